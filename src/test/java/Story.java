import java.util.ArrayList;
import java.util.List;

/** All that a desk tells of itself, of its saved states and of its text. */
final class Story {
    interface Maker {
        ChannelSpacer make();
    }

    interface Step {
        void on(ChannelSpacer x);
    }

    private Story() {
    }

    /** What the present state answers; it changes nothing. */
    static List<Long> now(ChannelSpacer x) {
        List<Long> told = new ArrayList<>();
        for (int carrier = 0; carrier < x.size(0); carrier++) {
            told.add((long) x.carrier(carrier, false));
            told.add((long) x.carrier(carrier, true));
        }
        for (int mixer = 0; mixer < x.size(1); mixer++) {
            told.add((long) x.mixer(mixer));
        }
        for (int test = 0; test < x.size(2); test++) {
            for (int what = 0; what <= 2; what++) {
                told.add((long) x.test(test, what));
            }
        }
        int all = (1 << x.size(0)) - 1;
        told.addAll(List.of(x.channels(), x.fallout(all), x.openings(60), x.bestRuler(3)));
        told.addAll(List.of((long) x.products(), (long) x.hits(), (long) x.diagnoses(), (long) x.diagnosis()));
        told.addAll(List.of((long) x.certain(true), (long) x.certain(false), (long) x.bestTest(all)));
        return told;
    }

    /** As now(), with the digest, and then all that was saved, and what the text says; the desk is used up by it. */
    static List<Long> whole(ChannelSpacer x) {
        List<Long> told = new ArrayList<>();
        boolean goesOn = true;
        while (goesOn) {
            told.addAll(now(x));
            told.add(x.digest());
            goesOn = hasUndone(x);
        }
        told.add((long) x.setProducts(1, 2, 3));
        told.add((long) x.setSpacing(1, 2));
        told.add((long) x.parse());
        told.addAll(now(x));
        told.add((long) x.clearText());
        return told;
    }

    static boolean hasUndone(ChannelSpacer x) {
        try {
            x.undo();
            return true;
        } catch (IllegalStateException e) {
            return false;
        }
    }

    /** The call must throw this exception (and no subclass of it), and leave all as on a desk that it never saw. */
    static void refused(String what, Maker maker, Class<? extends Exception> wanted, Step step) {
        ChannelSpacer x = maker.make();
        String answer = "an answer";
        try {
            step.on(x);
        } catch (RuntimeException e) {
            answer = e.getClass().getName();
        }
        if (!answer.equals(wanted.getName())) {
            Check.complain(what + " gave " + answer + ", due is " + wanted.getName());
        }
        same(what + ", behind the refused call", whole(x), whole(maker.make()));
    }

    /** The call must leave all as on a desk that it never saw. */
    static void changesNothing(String what, Maker maker, Step step) {
        ChannelSpacer x = maker.make();
        step.on(x);
        same(what + ", which changes nothing", whole(x), whole(maker.make()));
    }

    static void same(String what, List<Long> got, List<Long> want) {
        if (!got.equals(want)) {
            Check.complain(what + ": the desk tells " + got + ", due is " + want);
        }
    }
}
