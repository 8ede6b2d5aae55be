import java.util.function.LongSupplier;

/** Long runs of calls, each of which the desk must answer as the model does. */
public final class FuzzTest {
    private static final int RUNS = 400;
    private static final int MOST_CALLS = 512;

    private final ChannelSpacer desk = new ChannelSpacer();
    private final Model model = new Model();
    private final int run;
    private long seed;
    private int calls = 0;
    private String lately = "";

    private FuzzTest(int run) {
        this.run = run;
        seed = run * 7919L + 12345;
    }

    public static void main(String[] args) {
        for (int run = 0; run < RUNS; run++) {
            new FuzzTest(run).go();
        }
        Check.end();
    }

    private int pick(int below) {
        seed = seed * 6364136223846793005L + 1442695040888963407L;
        return (int) ((seed >>> 33) % below);
    }

    private int pick(int low, int high) {
        return low + pick(high - low + 1);
    }

    private boolean flip() {
        return pick(2) == 0;
    }

    private static String answerOf(LongSupplier call) {
        try {
            return String.valueOf(call.getAsLong());
        } catch (IllegalArgumentException | IllegalStateException | IndexOutOfBoundsException e) {
            return e.getClass().getName();
        }
    }

    private void same(String what, LongSupplier ofDesk, LongSupplier ofModel) {
        if (calls >= MOST_CALLS) {
            return;
        }
        calls++;
        String want = answerOf(ofModel);
        String got = answerOf(ofDesk);
        lately = lately + what + " = " + want + "; ";
        if (!got.equals(want)) {
            Check.complain("run " + run + ", call " + calls + ": " + what + " answered " + got + ", due is " + want
                    + " (so far: " + lately.substring(Math.max(0, lately.length() - 900)) + ")");
            calls = MOST_CALLS;
        }
    }

    private void go() {
        if (run % 4 != 0) {
            layOut();
        }
        while (calls < MOST_CALLS) {
            int what = pick(100);
            if (what < 28) {
                change();
            } else if (what < 31) {
                text();
            } else if (what < 55) {
                ask();
            } else if (what < 70) {
                askOfSpans();
            } else {
                diagnose();
            }
            same("digest()", desk::digest, model::digest);
        }
    }

    /** Some carriers and mixers to begin with: close together, so that they hit each other, or far apart. */
    private void layOut() {
        int carriers = pick(1, 10);
        int width = flip() ? 20 : 64;
        for (int i = 0; i < carriers; i++) {
            addCarrier(pick(width), flip() ? 60 : pick(61));
        }
        for (int i = pick(6); i > 0; i--) {
            addMixer(pick(1 << size(0)));
        }
    }

    private int size(int what) {
        return model.size(what);
    }

    /** A number of one of some things, seldom of none. */
    private int numberOf(int count) {
        return pick(12) == 0 ? pick(-1, count + 1) : pick(Math.max(1, count));
    }

    private int channel() {
        return pick(20) == 0 ? (flip() ? -1 : 64) : pick(64);
    }

    private int level() {
        return pick(20) == 0 ? (flip() ? -1 : 61) : pick(61);
    }

    private int set() {
        return pick(15) == 0 ? pick(-2, 1100) : pick(5) == 0 ? (1 << size(0)) - 1 : pick(1 << size(0));
    }

    private void addCarrier(int channel, int level) {
        same("addCarrier(" + channel + ", " + level + ")", () -> desk.addCarrier(channel, level),
                () -> model.addCarrier(channel, level));
    }

    private void addMixer(int set) {
        same("addMixer(" + set + ")", () -> desk.addMixer(set), () -> model.addMixer(set));
    }

    private void change() {
        int carrier = numberOf(size(0));
        int mixer = numberOf(size(1));
        int channel = channel();
        int level = level();
        boolean flag = flip();
        switch (pick(10)) {
            case 0, 1:
                addCarrier(channel, level);
                break;
            case 2:
                same("moveCarrier(" + carrier + ", " + channel + ", " + level + ")",
                        () -> desk.moveCarrier(carrier, channel, level),
                        () -> model.moveCarrier(carrier, channel, level));
                break;
            case 3:
                same("removeCarrier(" + carrier + ")", () -> desk.removeCarrier(carrier),
                        () -> model.removeCarrier(carrier));
                break;
            case 4:
                int by = pick(10) == 0 ? pick(-70, 70) : pick(-5, 5);
                same("shift(" + by + ")", () -> desk.shift(by), () -> model.shift(by));
                break;
            case 5:
                int kinds = pick(12) == 0 ? pick(-1, 8) : pick(8);
                int loss3 = pick(12) == 0 ? pick(-1, 301) : pick(3) * 80;
                int loss5 = pick(12) == 0 ? pick(-1, 301) : pick(4) * 75;
                same("setProducts(" + kinds + ", " + loss3 + ", " + loss5 + ")",
                        () -> desk.setProducts(kinds, loss3, loss5), () -> model.setProducts(kinds, loss3, loss5));
                break;
            case 6:
                int guard = flip() ? 0 : pick(-1, 6);
                int spacing = flip() ? pick(1, 3) : pick(0, 11);
                same("setSpacing(" + guard + ", " + spacing + ")", () -> desk.setSpacing(guard, spacing),
                        () -> model.setSpacing(guard, spacing));
                break;
            case 7:
                addMixer(set());
                break;
            case 8:
                same("setMember(" + mixer + ", " + carrier + ", " + flag + ")",
                        () -> desk.setMember(mixer, carrier, flag), () -> model.setMember(mixer, carrier, flag));
                break;
            default:
                same("undo()", desk::undo, model::undo);
                break;
        }
    }

    private void ask() {
        int carrier = numberOf(size(0));
        int set = set();
        int what = pick(-1, 6);
        int index = pick(8) == 0 ? pick(-2, 600) : pick(Math.max(1, model.products()));
        boolean flag = flip();
        switch (pick(11)) {
            case 0:
                same("size(" + what + ")", () -> desk.size(what), () -> model.size(what));
                break;
            case 1:
                same("carrier(" + carrier + ", " + flag + ")", () -> desk.carrier(carrier, flag),
                        () -> model.carrier(carrier, flag));
                break;
            case 2:
                same("channels()", desk::channels, model::channels);
                break;
            case 3:
                same("products()", desk::products, model::products);
                break;
            case 4:
                same("product(" + index + ", " + what + ")", () -> desk.product(index, what),
                        () -> model.product(index, what));
                break;
            case 5:
                same("fallout(" + set + ")", () -> desk.fallout(set), () -> model.fallout(set));
                break;
            case 6:
                same("hits()", desk::hits, model::hits);
                break;
            case 7:
                same("hitsOn(" + carrier + ")", () -> desk.hitsOn(carrier), () -> model.hitsOn(carrier));
                break;
            case 8:
                same("isClean()", () -> desk.isClean() ? 1 : 0, () -> model.isClean() ? 1 : 0);
                break;
            case 9:
                same("closest()", desk::closest, model::closest);
                break;
            default:
                same("removal()", desk::removal, model::removal);
                break;
        }
    }

    private void askOfSpans() {
        int level = level();
        int marks = pick(15) == 0 ? pick(0, 7) : pick(1, 4);
        int counted = pick(10) == 0 ? pick(0, 6) : pick(1, 4);
        int span = pick(-1, 41);
        switch (pick(5)) {
            case 0:
                same("leastSpan(" + marks + ")", () -> desk.leastSpan(marks), () -> model.leastSpan(marks));
                break;
            case 1:
                same("bestRuler(" + marks + ")", () -> desk.bestRuler(marks), () -> model.bestRuler(marks));
                break;
            case 2:
                same("rulers(" + counted + ", " + span + ")", () -> desk.rulers(counted, span),
                        () -> model.rulers(counted, span));
                break;
            case 3:
                same("openings(" + level + ")", () -> desk.openings(level), () -> model.openings(level));
                break;
            default:
                same("putIn(" + level + ")", () -> desk.putIn(level), () -> model.putIn(level));
                break;
        }
    }

    private void diagnose() {
        int active = set();
        int channel = channel();
        int mixer = numberOf(size(1));
        int test = numberOf(size(2));
        int what = pick(-1, 3);
        boolean flag = flip();
        switch (pick(11)) {
            case 0:
                same("mixer(" + mixer + ")", () -> desk.mixer(mixer), () -> model.mixer(mixer));
                break;
            case 1, 2, 3:
                boolean silent = pick(3) > 0;
                same("addTest(" + active + ", " + channel + ", " + !silent + ")",
                        () -> desk.addTest(active, channel, !silent), () -> model.addTest(active, channel, !silent));
                break;
            case 4:
                same("test(" + test + ", " + what + ")", () -> desk.test(test, what), () -> model.test(test, what));
                break;
            case 5:
                same("heard(" + active + ", " + channel + ")", () -> desk.heard(active, channel),
                        () -> model.heard(active, channel));
                break;
            case 6:
                same("diagnoses()", desk::diagnoses, model::diagnoses);
                break;
            case 7:
                same("diagnosis()", desk::diagnosis, model::diagnosis);
                break;
            case 8:
                same("certain(" + flag + ")", () -> desk.certain(flag), () -> model.certain(flag));
                break;
            default:
                same("bestTest(" + active + ")", () -> desk.bestTest(active), () -> model.bestTest(active));
                break;
        }
    }

    // ---- texts

    private void text() {
        if (pick(5) > 0) {
            same("clearText()", desk::clearText, model::clearText);
        }
        String plan = plan();
        if (flip()) {
            plan = spoiled(plan);
        }
        for (int i = 0; i < plan.length(); i++) {
            append(plan.charAt(i));
        }
        if (pick(6) == 0) {
            append(flip() ? -1 : 128);
        }
        same("parse()", desk::parse, model::parse);
    }

    private void append(int value) {
        same("append(" + value + ")", () -> desk.append(value), () -> model.append(value));
    }

    private String plan() {
        StringBuilder plan = new StringBuilder();
        int carriers = pick(12);
        int first = pick(40);
        for (int i = 0; i < carriers; i++) {
            int channel = pick(10) == 0 ? pick(70) : first + i * 2;
            plan.append('c').append(channel).append(',').append(pick(20) == 0 ? pick(99) : pick(61)).append(';');
        }
        int mixers = pick(pick(4) == 0 ? 7 : 4);
        for (int i = 0; i < mixers; i++) {
            plan.append('m');
            int start = pick(3);
            for (int member = start; member == start || member < start + pick(5); member++) {
                plan.append(member == start ? "" : ",").append(pick(15) == 0 ? pick(12) : member);
            }
            plan.append(';');
        }
        return plan.toString();
    }

    private String spoiled(String plan) {
        if (plan.isEmpty()) {
            return ",";
        }
        int at = pick(plan.length());
        String signs = "cm,;0123456789x/:";
        char sign = signs.charAt(pick(signs.length()));
        switch (pick(3)) {
            case 0:
                return plan.substring(0, at);
            case 1:
                return plan.substring(0, at) + sign + plan.substring(at + 1);
            default:
                return plan.substring(0, at) + sign + plan.substring(at);
        }
    }
}
