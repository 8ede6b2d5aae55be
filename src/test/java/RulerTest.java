/** The search for rulers against trying all sets of channels, with all settings that differ for it. */
public final class RulerTest {
    private RulerTest() {
    }

    public static void main(String[] args) {
        for (int kinds = 0; kinds <= 7; kinds++) {
            for (int guard = 0; guard <= 5; guard++) {
                for (int spacing = 1; spacing <= 10; spacing++) {
                    compare(kinds, guard, spacing);
                }
            }
        }
        Check.end();
    }

    private static void compare(int kinds, int guard, int spacing) {
        ChannelSpacer desk = new ChannelSpacer();
        Model model = new Model();
        desk.setProducts(kinds, 180, 300);
        model.setProducts(kinds, 180, 300);
        desk.setSpacing(guard, spacing);
        model.setSpacing(guard, spacing);
        String settings = " with kinds " + kinds + ", guard " + guard + ", spacing " + spacing;
        for (int marks = 1; marks <= 6; marks++) {
            Check.due("leastSpan(" + marks + ")" + settings, desk.leastSpan(marks), model.leastSpan(marks));
            Check.due("bestRuler(" + marks + ")" + settings, desk.bestRuler(marks), model.bestRuler(marks));
        }
        for (int marks = 1; marks <= 5; marks++) {
            for (int span = 0; span <= 40; span++) {
                Check.due("rulers(" + marks + ", " + span + ")" + settings, desk.rulers(marks, span),
                        model.rulers(marks, span));
            }
        }
    }
}
