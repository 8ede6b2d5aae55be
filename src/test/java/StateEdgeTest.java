import java.math.BigInteger;
import java.util.List;

/** The boundary cases of the promises 37 and 38, and of what the terms say of changes, undo and exceptions. */
public final class StateEdgeTest extends Desks {
    /** Those that are undoable and drop all tests, each on a desk as begun() makes it. */
    private static final Story.Step[] DROPPING = {
        x -> x.addCarrier(40, 1), x -> x.moveCarrier(0, 11, 59), x -> x.removeCarrier(1), x -> x.shift(3),
        x -> x.setProducts(7, 1, 2), x -> x.setSpacing(1, 2), x -> x.addMixer(1), x -> x.setMember(0, 0, false),
        ChannelSpacer::parse, x -> x.putIn(60),
    };

    /** As above, where nothing but the tests is another then. */
    private static final Story.Step[] CHANGING_NOTHING = {
        x -> x.moveCarrier(0, 10, 60), x -> x.moveCarrier(1, 13, 60), x -> x.shift(0),
        x -> x.setProducts(3, 0, 100), x -> x.setSpacing(0, 1), x -> x.setMember(0, 0, true),
        x -> x.setMember(1, 0, false), x -> x.setMember(1, 1, false),
    };

    private static final Story.Step[] ASKING = {
        x -> x.size(0), x -> x.size(1), x -> x.size(2), x -> x.carrier(1, true), x -> x.carrier(0, false),
        ChannelSpacer::channels, ChannelSpacer::products, x -> x.product(0, 5), x -> x.fallout(2),
        ChannelSpacer::hits, x -> x.hitsOn(1), ChannelSpacer::isClean, ChannelSpacer::closest,
        ChannelSpacer::removal, x -> x.leastSpan(6), x -> x.bestRuler(6), x -> x.rulers(5, 40),
        x -> x.openings(60), x -> x.mixer(0), x -> x.test(1, 0), x -> x.heard(3, 16), ChannelSpacer::diagnoses,
        ChannelSpacer::diagnosis, x -> x.certain(true), x -> x.certain(false), x -> x.bestTest(3),
        ChannelSpacer::digest,
    };

    private StateEdgeTest() {
    }

    public static void main(String[] args) {
        changesDropTests();
        changesWithoutMixers();
        changesWithoutEffectCount();
        askingChangesNothing();
        refusedCallsDropNoTests();
        undoOfEachChange();
        undoOfNothing();
        fourAreSaved();
        oldestIsDroppedFirst();
        undoGoesBackOnly();
        undoOverAndOver();
        undoOfAFullDesk();
        undoOfTests();
        undoLeavesTheText();
        savedCountInDigest();
        digestOfEachPart();
        digestWrapsAround();
        lastOf512Calls();
        Check.end();
    }

    /** Two carriers, a mixer of both and an empty one, two tests, and four saved states. */
    private static ChannelSpacer begun() {
        ChannelSpacer x = deskOf(10, 60, 13, 60);
        x.addMixer(3);
        x.addMixer(0);
        x.addTest(3, 7, true);
        x.addTest(2, 16, false);
        return x;
    }

    private static ChannelSpacer begunWithText() {
        ChannelSpacer x = begun();
        write(x, "c1,2;m0;c");
        return x;
    }

    // ---- changes

    private static void changesDropTests() {
        for (int i = 0; i < DROPPING.length; i++) {
            ChannelSpacer x = begun();
            DROPPING[i].on(x);
            Check.due("8: tests behind the change " + i, x.size(2), 0);
            Check.due("30: all sets behind the change " + i, x.diagnoses(), 1 << x.size(1));
            Check.due("31: the best one behind the change " + i, x.diagnosis(), 0);
            Check.refused("28: no test behind the change " + i, x, INDEX, () -> x.test(0, 0));
        }
        ChannelSpacer tests = begun();
        tests.addTest(1, 1, false);
        Check.due("27: a test drops no tests", tests.size(2), 3);
        tests.undo();
        Check.due("37: undo() drops no tests", tests.size(2), 2);
        tests.append('x');
        tests.parse();
        tests.clearText();
        Check.due("36: an error drops no tests", tests.size(2), 2);
    }

    private static void changesWithoutMixers() {
        for (int i = 0; i < DROPPING.length; i++) {
            ChannelSpacer x = deskOf(10, 60, 13, 60);
            if (i == 7) {
                continue;
            }
            x.addTest(1, 1, true);
            DROPPING[i].on(x);
            Check.due("8: tests without mixers behind the change " + i, x.size(2), 0);
        }
        ChannelSpacer one = deskOf(10, 60);
        one.addTest(1, 1, true);
        one.removeCarrier(0);
        Check.due("8: tests behind the only carrier", one.size(2), 0);
        Check.due("30: and what they told", one.diagnoses(), 1);
    }

    private static void changesWithoutEffectCount() {
        for (int i = 0; i < CHANGING_NOTHING.length; i++) {
            ChannelSpacer x = begun();
            List<Long> before = Story.now(x);
            CHANGING_NOTHING[i].on(x);
            Check.due("8: tests behind the same, " + i, x.size(2), 0);
            Check.due("37: saved before the same, " + i, x.undo(), 3);
            Story.same("37: all again before the same, " + i, Story.now(x), before);
            Check.due("8: tests before the same, " + i, x.size(2), 2);
        }
        ChannelSpacer bare = new ChannelSpacer();
        bare.addTest(0, 0, false);
        bare.shift(0);
        Check.due("5: nothing to shift, but tests to drop", bare.size(2), 0);
        bare.undo();
        bare.parse();
        Check.due("36: nothing to read, but tests to drop", bare.size(2), 0);
        bare.undo();
        bare.putIn(0);
        Check.due("23: put in, and tests to drop", bare.size(2), 0);
    }

    private static void askingChangesNothing() {
        for (int i = 0; i < ASKING.length; i++) {
            Story.changesNothing("the question " + i, StateEdgeTest::begunWithText, ASKING[i]);
        }
    }

    private static void refusedCallsDropNoTests() {
        Story.Step[] refused = {
            x -> x.addCarrier(13, 0), x -> x.moveCarrier(2, 0, 0), x -> x.moveCarrier(0, 13, 0),
            x -> x.removeCarrier(2), x -> x.shift(-11), x -> x.shift(64), x -> x.setProducts(8, 0, 0),
            x -> x.setSpacing(0, 0), x -> x.putIn(61), x -> x.addMixer(4), x -> x.setMember(2, 0, true),
            x -> x.setMember(0, 2, true), x -> x.addTest(4, 0, true), x -> x.append(128),
        };
        for (int i = 0; i < refused.length; i++) {
            ChannelSpacer x = begunWithText();
            boolean isRefused = false;
            try {
                refused[i].on(x);
            } catch (RuntimeException e) {
                isRefused = true;
            }
            Check.due("refused, " + i, isRefused, true);
            Check.due("8: tests behind the refused call " + i, x.size(2), 2);
            Story.same("all behind the refused call " + i, Story.whole(x), Story.whole(begunWithText()));
        }
    }

    // ---- 37

    private static void undoOfEachChange() {
        for (int i = 0; i < DROPPING.length; i++) {
            ChannelSpacer x = begunWithText();
            if (i == 8) {
                write(x, "c1,2;m0;");
            }
            List<Long> before = Story.now(x);
            long digest = x.digest();
            DROPPING[i].on(x);
            Check.due("37: something changed, " + i, Story.now(x).equals(before), false);
            Check.due("37: left behind the change " + i, x.undo(), 3);
            Story.same("37: as before the change " + i, Story.now(x), before);
            // The number of saved states is told last: it is 3 now, and it was 4.
            Check.due("37: the digest as before the change " + i, x.digest(), digest - 1);
        }
        ChannelSpacer x = begun();
        List<Long> before = Story.now(x);
        x.addTest(3, 16, true);
        Check.due("37: left behind a test", x.undo(), 3);
        Story.same("37: as before the test", Story.now(x), before);
    }

    private static void undoOfNothing() {
        Story.refused("37: a new desk", ChannelSpacer::new, STATE, ChannelSpacer::undo);
        Story.refused("37: text alone", () -> {
            ChannelSpacer x = new ChannelSpacer();
            write(x, "c1,1");
            x.parse();
            return x;
        }, STATE, ChannelSpacer::undo);
        Story.refused("37: all undone", () -> {
            ChannelSpacer x = deskOf(1, 1);
            x.undo();
            return x;
        }, STATE, ChannelSpacer::undo);
        Story.refused("37: all four undone", () -> {
            ChannelSpacer x = ten();
            for (int i = 0; i < 4; i++) {
                x.undo();
            }
            return x;
        }, STATE, ChannelSpacer::undo);
    }

    private static void fourAreSaved() {
        for (int changes = 1; changes <= 9; changes++) {
            ChannelSpacer x = new ChannelSpacer();
            for (int i = 0; i < changes; i++) {
                x.addCarrier(i, i);
            }
            int saved = Math.min(changes, 4);
            for (int left = saved - 1; left >= 0; left--) {
                Check.due("37: left of " + changes, x.undo(), left);
                Check.due("37: carriers then", x.size(0), changes - saved + left);
            }
            Check.refused("37: no more of " + changes, x, STATE, x::undo);
        }
    }

    /** Five changes of different parts: the first one stays, whatever is undone. */
    private static void oldestIsDroppedFirst() {
        ChannelSpacer x = new ChannelSpacer();
        x.addCarrier(33, 3);
        x.setSpacing(2, 3);
        x.setProducts(1, 2, 3);
        x.addMixer(1);
        x.addTest(1, 1, true);
        int[] left = {3, 2, 1, 0};
        long[] digests = {
            hash(0, 1, 2, 3, 2, 3, 1, 33, 3, 0, 0, 1, 1, 0, 2, 0, 3),
            hash(0, 1, 2, 3, 2, 3, 1, 33, 3, 0, 0, 0, 0, 1, 0, 2),
            hash(0, 3, 0, 100, 2, 3, 1, 33, 3, 0, 0, 0, 0, 1, 0, 1),
            hash(0, 3, 0, 100, 0, 1, 1, 33, 3, 0, 0, 0, 0, 1, 0, 0),
        };
        for (int i = 0; i < 4; i++) {
            Check.due("37: left", x.undo(), left[i]);
            Check.due("38: the digest with so many left: " + left[i], x.digest(), digests[i]);
        }
        Check.refused("37: the first change cannot be undone", x, STATE, x::undo);
    }

    private static void undoGoesBackOnly() {
        ChannelSpacer x = deskOf(1, 1, 2, 2, 3, 3);
        Check.due("37: the third", x.undo(), 2);
        Check.due("37: the second, not the third again", x.undo(), 1);
        Check.due("8: one carrier", x.size(0), 1);
        x.addCarrier(9, 9);
        Check.due("37: only the new one", x.undo(), 1);
        Check.due("37: then the first", x.undo(), 0);
        Check.due("10: none", x.channels(), 0);
    }

    /** More than four changes and undos by turns, so that the places of the saved states are used again. */
    private static void undoOverAndOver() {
        ChannelSpacer x = new ChannelSpacer();
        for (int round = 0; round < 11; round++) {
            for (int guard = 0; guard <= 5; guard++) {
                x.setSpacing(guard, 1 + round % 10);
            }
            Check.due("37: back to 4", x.undo(), 3);
            Check.due("37: 4", x.setSpacing(1, 1), 4);
            Check.due("37: back to 4 again", x.undo(), 3);
            Check.due("37: back to 3", x.undo(), 2);
            Check.due("37: back to 2", x.undo(), 1);
            Check.due("37: back to 1", x.undo(), 0);
            Check.due("37: 1", x.setSpacing(0, 1), 1);
            Check.due("37: the spacing of the round", x.undo(), 0);
            Check.due("38: and there it is", x.digest(),
                    hash(0, 3, 0, 100, 1, 1 + round % 10, 0, 0, 0, 0, 0, 1, 0, 0));
        }
    }

    private static ChannelSpacer full() {
        ChannelSpacer x = ten();
        for (int i = 0; i < 5; i++) {
            x.addMixer(1023 >> i);
        }
        for (int i = 0; i < 16; i++) {
            x.addTest(1023 - i, 63 - i, false);
        }
        return x;
    }

    private static void undoOfAFullDesk() {
        Story.Step[] steps = {ChannelSpacer::parse, x -> x.removeCarrier(0), x -> x.shift(54)};
        for (int i = 0; i < steps.length; i++) {
            ChannelSpacer x = full();
            List<Long> before = Story.now(x);
            steps[i].on(x);
            x.addTest(0, 0, false);
            Check.due("37: left on a full desk", x.undo(), 3);
            Check.due("37: left on a full desk", x.undo(), 2);
            Story.same("37: a full desk before the change " + i, Story.now(x), before);
            Check.due("28: the last test", x.test(15, 0), 1008);
            Check.due("26: the last mixer", x.mixer(4), 63);
            Check.due("9: the last carrier", x.carrier(9, true), 9);
        }
    }

    /** Tests that were dropped, and others in their places, each other in every way. */
    private static void undoOfTests() {
        ChannelSpacer x = begun();
        List<Long> before = Story.now(x);
        x.setSpacing(0, 1);
        x.addTest(0, 63, false);
        x.addTest(3, 16, true);
        Check.due("30: the others", x.diagnoses(), 2);
        Check.due("37: two tests and the change", x.undo(), 3);
        Check.due("28: one of the others stays", x.test(0, 1), 63);
        x.undo();
        x.undo();
        Story.same("37: the first ones again", Story.now(x), before);
        Check.due("28: heard", x.test(0, 2), 1);
        Check.due("28: not heard", x.test(1, 2), 0);
        Check.due("32: the mixer is bad again", x.certain(true), 1);
    }

    private static void undoLeavesTheText() {
        ChannelSpacer x = new ChannelSpacer();
        x.addCarrier(1, 1);
        write(x, "c5,6;");
        x.addCarrier(2, 2);
        Check.due("37: one is left", x.undo(), 1);
        Check.due("36: the text stayed", x.parse(), 1);
        Check.due("10: its channel", x.channels(), 1L << 5);
        x.clearText();
        x.undo();
        Check.due("35: no text comes back", x.clearText(), 0);
        Check.due("10: the carriers come back", x.channels(), 2);
    }

    // ---- 38

    private static void savedCountInDigest() {
        ChannelSpacer x = new ChannelSpacer();
        for (int saved = 0; saved <= 6; saved++) {
            Check.due("38: with " + saved + " changes", x.digest(),
                    hash(0, 3, 0, 100, 0, 1, 0, 0, 0, 0, 0, 1, 0, Math.min(saved, 4)));
            x.shift(0);
        }
        x.undo();
        Check.due("38: three are left", x.digest(), hash(0, 3, 0, 100, 0, 1, 0, 0, 0, 0, 0, 1, 0, 3));
    }

    private static void digestOfEachPart() {
        ChannelSpacer x = deskOf(63, 60, 0, 0);
        write(x, "c63,60");
        x.setProducts(5, 299, 300);
        x.setSpacing(5, 10);
        x.addMixer(2);
        x.addMixer(1);
        x.addTest(3, 63, false);
        x.addTest(0, 0, true);
        // No product is in the band; nothing was heard fits, but something was heard does not.
        Check.due("38: each part", x.digest(), hash(6, 5, 299, 300, 5, 10, 2, 63, 60, 0, 0, 0, 0, 2, 2, 1, 2, 3, 63, 0,
                0, 0, 1, 0, -1, 4));
        ChannelSpacer hit = loud(7, 10, 20, 30);
        Check.due("38: products and hits", hit.digest(), hash(0, 7, 0, 0, 0, 1, 3, 10, 60, 20, 60, 30, 60, 11, 3, 0, 0,
                1, 0, 4));
        ChannelSpacer most = loud(0, 0, 1, 2, 3, 4, 5, 6, 7, 8, 9);
        for (int i = 0; i < 5; i++) {
            most.addMixer(1 << i);
        }
        Check.due("38: all sets are diagnoses", most.digest(), hash(0, 0, 0, 0, 0, 1, 10, 0, 60, 1, 60, 2, 60, 3, 60,
                4, 60, 5, 60, 6, 60, 7, 60, 8, 60, 9, 60, 0, 0, 5, 1, 2, 4, 8, 16, 0, 32, 0, 4));
    }

    /** The same without any overflow, taken modulo the 64 bits of a long at the end. */
    private static long exactly(int... values) {
        BigInteger h = BigInteger.valueOf(3067);
        for (int v : values) {
            h = h.multiply(BigInteger.valueOf(31)).add(BigInteger.valueOf(v));
        }
        return h.longValue();
    }

    private static void digestWrapsAround() {
        Check.due("38: of a new desk", new ChannelSpacer().digest(),
                exactly(0, 3, 0, 100, 0, 1, 0, 0, 0, 0, 0, 1, 0, 0));
        Check.due("38: of two carriers", deskOf(0, 60, 63, 0).digest(),
                exactly(0, 3, 0, 100, 0, 1, 2, 0, 60, 63, 0, 0, 0, 0, 0, 1, 0, 2));
        Check.due("38: without a diagnosis", begunAgainst().digest(),
                exactly(0, 3, 0, 100, 0, 1, 2, 10, 60, 13, 60, 2, 0, 2, 3, 0, 3, 3, 7, 1, 2, 16, 0, 0, 9, 1, 0, -1, 4));
    }

    private static ChannelSpacer begunAgainst() {
        ChannelSpacer x = begun();
        x.addTest(0, 9, true);
        return x;
    }

    /** A desk answers its 512th call as any other. */
    private static void lastOf512Calls() {
        ChannelSpacer x = new ChannelSpacer();
        for (int call = 1; call <= 508; call++) {
            x.shift(0);
        }
        Check.due("the 509th call", x.addCarrier(63, 60), 0);
        Check.due("the 510th call", x.undo(), 3);
        Check.due("the 511th call", x.leastSpan(6), 17);
        Check.due("the 512th call", x.digest(), hash(0, 3, 0, 100, 0, 1, 0, 0, 0, 0, 0, 1, 0, 3));
    }
}
