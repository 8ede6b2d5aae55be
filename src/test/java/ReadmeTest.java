import java.io.IOException;
import java.nio.file.Files;
import java.nio.file.Path;

/** The examples of README.md: each call stands on that page, and answers what the page says. */
public final class ReadmeTest extends Desks {
    private final String page;
    private final ChannelSpacer desk = new ChannelSpacer();

    private ReadmeTest(String page) {
        this.page = page;
    }

    public static void main(String[] args) throws IOException {
        ReadmeTest test = new ReadmeTest(Files.readString(Path.of("README.md")));
        test.carriers();
        test.spans();
        test.mixers();
        test.text();
        Check.end();
    }

    private void shown(String call, long got, long want) {
        onPage("desk." + call + ";");
        Check.due("README.md: " + call, got, want);
    }

    private void onPage(String text) {
        if (!page.contains(text)) {
            Check.complain("README.md does not show " + text);
        }
    }

    private void carriers() {
        shown("addCarrier(10, 60)", desk.addCarrier(10, 60), 0);
        shown("addCarrier(13, 60)", desk.addCarrier(13, 60), 1);
        shown("products()", desk.products(), 2);
        shown("product(0, 4)", desk.product(0, 4), 7);
        shown("fallout(0b11)", desk.fallout(0b11), 1L << 7 | 1L << 16);
        shown("isClean()", desk.isClean() ? 1 : 0, 1);
    }

    private void spans() {
        shown("leastSpan(4)", desk.leastSpan(4), 6);
        shown("bestRuler(4)", desk.bestRuler(4), 0b1010011);
        shown("rulers(4, 6)", desk.rulers(4, 6), 2);
        shown("putIn(60)", desk.putIn(60), 0);
        Check.due("the carrier that was put in", desk.carrier(2, false), 0);
    }

    private void mixers() {
        shown("addMixer(0b011)", desk.addMixer(0b011), 0);
        shown("addMixer(0b110)", desk.addMixer(0b110), 1);
        shown("addTest(0b111, 7, true)", desk.addTest(0b111, 7, true), 2);
        shown("diagnosis()", desk.diagnosis(), 0b01);
        shown("certain(true)", desk.certain(true), 0b01);
        shown("bestTest(0b111)", desk.bestTest(0b111), 26);
    }

    private void text() {
        String plan = "c20,60;c24,30;m0,1;";
        onPage(plan);
        write(desk, plan);
        shown("parse()", desk.parse(), 3);
        Check.due("a carrier of the plan", desk.carrier(1, true), 30);
        shown("undo()", desk.undo(), 3);
        Check.due("a carrier from before the plan", desk.carrier(1, false), 13);
        onPage("c10,60;c10,9;");
        Check.due("a plan that takes a channel twice", parsed("c10,60;c10,9;"), -18);
    }
}
