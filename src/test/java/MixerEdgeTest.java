import java.util.Arrays;

/** The boundary cases of the promises 24 to 33: mixers, tests and diagnoses. */
public final class MixerEdgeTest extends Desks {
    private MixerEdgeTest() {
    }

    public static void main(String[] args) {
        mixersOfEachSet();
        fiveMixersAreTheMost();
        addMixerIsRefused();
        membersInAndOut();
        setMemberIsRefused();
        mixerIsRefused();
        sixteenTestsAreTheMost();
        addTestAtTheEnds();
        addTestIsRefused();
        testIsRefused();
        mixersMixTheirOwnAlone();
        allMustBeActive();
        heardAtTheEnds();
        heardIsStrongAndExact();
        heardIsRefused();
        countOfDiagnoses();
        emptyDiagnosis();
        noDiagnosis();
        bestDiagnosis();
        certainOnes();
        certainOfAll();
        certainOfNone();
        bestTestAtTheEnds();
        bestTestSplitsBest();
        bestTestOfOneOrNone();
        bestTestIsRefused();
        Check.end();
    }

    /** Mixers of three carriers; 0 and 1 make 17 and 26; 0 and 2: 9 and 42; 1 and 2: 15 and 39; all: 12, 28, 34 too. */
    private static ChannelSpacer mixed(int... sets) {
        ChannelSpacer x = loud(3, 20, 23, 31);
        for (int set : sets) {
            x.addMixer(set);
        }
        return x;
    }

    // ---- 24

    private static void mixersOfEachSet() {
        for (int set = 0; set <= 7; set++) {
            ChannelSpacer x = mixed();
            Check.due("24: the number of the first", x.addMixer(set), 0);
            Check.due("26: its carriers", x.mixer(0), set);
        }
        ChannelSpacer none = new ChannelSpacer();
        Check.due("24: empty, without carriers", none.addMixer(0), 0);
        Check.due("26: empty, without carriers", none.mixer(0), 0);
        none.addCarrier(5, 5);
        Check.due("26: a new carrier is in no mixer", none.mixer(0), 0);
        ChannelSpacer full = ten();
        full.addMixer(1023);
        full.addMixer(512);
        Check.due("26: all ten", full.mixer(0), 1023);
        Check.due("26: the tenth", full.mixer(1), 512);
    }

    private static void fiveMixersAreTheMost() {
        ChannelSpacer x = mixed();
        for (int number = 0; number < 5; number++) {
            Check.due("24: the number", x.addMixer(7 - number), number);
            Check.due("8: mixers", x.size(1), number + 1);
        }
        Check.refused("24: a sixth", x, STATE, () -> x.addMixer(0));
        Check.due("37: the fifth is undone", x.undo(), 3);
        Check.due("24: the fifth again", x.addMixer(7), 4);
        for (int mixer = 0; mixer < 5; mixer++) {
            Check.due("26: the same carriers in several", x.mixer(mixer), mixer == 4 ? 7 : 7 - mixer);
        }
        x.removeCarrier(0);
        Check.refused("24: a sixth, as no mixer went with the carrier", x, STATE, () -> x.addMixer(0));
    }

    private static void addMixerIsRefused() {
        for (int set : new int[] {-1, 8, 9, 15, 1024, LOWEST, HIGHEST}) {
            Story.refused("24: set " + set, () -> mixed(1), ARGUMENT, x -> x.addMixer(set));
            Story.refused("24: set " + set + ", full too", () -> mixed(1, 2, 3, 4, 5), ARGUMENT,
                    x -> x.addMixer(set));
        }
        Story.refused("24: a sixth", () -> mixed(1, 2, 3, 4, 5), STATE, x -> x.addMixer(7));
        Story.refused("24: without carriers", ChannelSpacer::new, ARGUMENT, x -> x.addMixer(1));
        Story.refused("24: an eleventh of ten", Desks::ten, ARGUMENT, x -> x.addMixer(1024));
    }

    // ---- 25 and 26

    private static void membersInAndOut() {
        ChannelSpacer x = ten();
        for (int mixer = 0; mixer < 5; mixer++) {
            x.addMixer(0);
        }
        int set = 0;
        for (int carrier = 0; carrier < 10; carrier++) {
            set |= 1 << carrier;
            Check.due("25: in", x.setMember(4, carrier, true), set);
            Check.due("25: in already", x.setMember(4, carrier, true), set);
        }
        Check.due("26: all ten", x.mixer(4), 1023);
        for (int carrier = 9; carrier >= 0; carrier--) {
            set &= ~(1 << carrier);
            Check.due("25: out", x.setMember(4, carrier, false), set);
            Check.due("25: out already", x.setMember(4, carrier, false), set);
        }
        for (int mixer = 0; mixer < 5; mixer++) {
            Check.due("26: the others stay empty", x.mixer(mixer), 0);
        }
        ChannelSpacer same = tested();
        Check.due("25: in already", same.setMember(0, 1, true), 3);
        Check.due("25: it drops the tests", same.size(2), 0);
        Check.due("25: and it was saved", same.undo(), 3);
        Check.due("25: the tests again", same.size(2), 2);
    }

    private static void setMemberIsRefused() {
        for (boolean member : new boolean[] {false, true}) {
            for (int wrong : new int[] {-1, 2, 5, 31, LOWEST, HIGHEST}) {
                Story.refused("25: mixer " + wrong, Desks::tested, INDEX, x -> x.setMember(wrong, 0, member));
                Story.refused("25: carrier " + wrong, Desks::tested, INDEX, x -> x.setMember(0, wrong, member));
                Story.refused("25: both " + wrong, Desks::tested, INDEX, x -> x.setMember(wrong, wrong, member));
            }
            Story.refused("25: the second of one", Desks::tested, INDEX, x -> x.setMember(1, 1, member));
            Story.refused("25: no mixers", Desks::three, INDEX, x -> x.setMember(0, 0, member));
            Story.refused("25: a sixth", () -> mixed(1, 2, 3, 4, 5), INDEX, x -> x.setMember(5, 0, member));
            Story.refused("25: an eleventh", MixerEdgeTest::tenInOne, INDEX, x -> x.setMember(0, 10, member));
        }
    }

    private static ChannelSpacer tenInOne() {
        ChannelSpacer x = ten();
        x.addMixer(1023);
        return x;
    }

    private static void mixerIsRefused() {
        Story.refused("26: no mixers", Desks::three, INDEX, x -> x.mixer(0));
        for (int mixer : new int[] {-1, 1, 5, LOWEST, HIGHEST}) {
            Story.refused("26: mixer " + mixer, Desks::tested, INDEX, x -> x.mixer(mixer));
        }
        Story.refused("26: a sixth", () -> mixed(1, 2, 3, 4, 5), INDEX, x -> x.mixer(5));
        Check.due("26: the fifth", mixed(1, 2, 3, 4, 5).mixer(4), 5);
        ChannelSpacer undone = mixed(1);
        undone.undo();
        Check.refused("26: one that was undone", undone, INDEX, () -> undone.mixer(0));
        ChannelSpacer parsed = mixed(1);
        parsed.parse();
        Check.refused("26: one that was parsed away", parsed, INDEX, () -> parsed.mixer(0));
    }

    // ---- 27 and 28

    private static ChannelSpacer sixteen() {
        ChannelSpacer x = mixed(7);
        for (int i = 0; i < 16; i++) {
            x.addTest(i % 8, 63 - i, false);
        }
        return x;
    }

    private static void sixteenTestsAreTheMost() {
        ChannelSpacer x = mixed(7);
        for (int i = 0; i < 16; i++) {
            Check.due("27: diagnoses with the test " + i, x.addTest(i % 8, 63 - i, false), 2);
            Check.due("8: tests", x.size(2), i + 1);
        }
        for (int i = 0; i < 16; i++) {
            Check.due("28: active of the test " + i, x.test(i, 0), i % 8);
            Check.due("28: channel of the test " + i, x.test(i, 1), 63 - i);
            Check.due("28: heard in the test " + i, x.test(i, 2), 0);
        }
        Story.refused("27: a seventeenth", MixerEdgeTest::sixteen, STATE, y -> y.addTest(0, 0, false));
        Story.refused("27: a seventeenth that is there", MixerEdgeTest::sixteen, STATE, y -> y.addTest(0, 63, false));
        Story.refused("27: a seventeenth, set wrong", MixerEdgeTest::sixteen, ARGUMENT, y -> y.addTest(8, 0, true));
        Story.refused("27: a seventeenth, set negative", MixerEdgeTest::sixteen, ARGUMENT,
                y -> y.addTest(-1, 0, true));
        Story.refused("27: a seventeenth, channel wrong", MixerEdgeTest::sixteen, ARGUMENT,
                y -> y.addTest(0, 64, true));
        Check.due("37: the last one is undone", x.undo(), 3);
        Check.due("27: the sixteenth again, heard", x.addTest(7, 17, true), 1);
        Check.due("28: it was heard", x.test(15, 2), 1);
        x.setMember(0, 0, true);
        Check.due("27: room for all again", x.addTest(0, 0, true), 0);
    }

    private static void addTestAtTheEnds() {
        ChannelSpacer x = new ChannelSpacer();
        Check.due("27: without carriers and mixers, not heard", x.addTest(0, 0, false), 1);
        Check.due("27: without carriers and mixers, heard", x.addTest(0, 63, true), 0);
        int[][] due = {{0, 0, 0}, {0, 63, 1}};
        for (int test = 0; test < 2; test++) {
            for (int what = 0; what <= 2; what++) {
                Check.due("28: test(" + test + ", " + what + ")", x.test(test, what), due[test][what]);
            }
        }
        ChannelSpacer full = tenInOne();
        full.addTest(1023, 63, true);
        Check.due("28: all ten active", full.test(0, 0), 1023);
        ChannelSpacer same = mixed(7, 3);
        Check.due("27: a test", same.addTest(3, 17, true), 3);
        Check.due("27: the same once more", same.addTest(3, 17, true), 3);
        Check.due("27: and its opposite", same.addTest(3, 17, false), 0);
        Check.due("8: all are kept", same.size(2), 3);
    }

    private static void addTestIsRefused() {
        for (int set : new int[] {-1, 4, 7, 1024, LOWEST, HIGHEST}) {
            Story.refused("27: set " + set, Desks::tested, ARGUMENT, x -> x.addTest(set, 0, true));
        }
        for (int channel : new int[] {-1, 64, LOWEST, HIGHEST}) {
            Story.refused("27: channel " + channel, Desks::tested, ARGUMENT, x -> x.addTest(3, channel, false));
        }
        Story.refused("27: without carriers", ChannelSpacer::new, ARGUMENT, x -> x.addTest(1, 0, false));
        Story.refused("27: an eleventh of ten", Desks::ten, ARGUMENT, x -> x.addTest(1024, 0, false));
    }

    private static void testIsRefused() {
        for (int what : new int[] {0, 1, 2, -1, 3}) {
            Story.refused("28: no tests, what " + what, () -> mixed(7), INDEX, x -> x.test(0, what));
            for (int test : new int[] {-1, 2, 16, LOWEST, HIGHEST}) {
                Story.refused("28: test " + test + ", what " + what, Desks::tested, INDEX, x -> x.test(test, what));
            }
            Story.refused("28: the seventeenth, what " + what, MixerEdgeTest::sixteen, INDEX, x -> x.test(16, what));
        }
        for (int what : new int[] {-1, 3, LOWEST, HIGHEST}) {
            Story.refused("28: the first, what " + what, Desks::tested, ARGUMENT, x -> x.test(0, what));
            Story.refused("28: the last, what " + what, Desks::tested, ARGUMENT, x -> x.test(1, what));
        }
    }

    // ---- 29

    private static void mixersMixTheirOwnAlone() {
        ChannelSpacer x = mixed(1, 2, 4, 0, 6);
        Check.due("29: 0 and 1 are in no mixer together", x.heard(7, 17), 0);
        Check.due("29: 1 and 2 are", x.heard(7, 15), 16);
        Check.due("29: 0, 1 and 2 are not", x.heard(7, 12), 0);
        x.setMember(3, 0, true);
        x.setMember(3, 1, true);
        Check.due("29: 0 and 1 are now", x.heard(7, 17), 8);
        ChannelSpacer all = mixed(3, 7, 3, 7, 3);
        Check.due("29: all five", all.heard(7, 17), 31);
        Check.due("29: the two with the third carrier", all.heard(7, 12), 10);
    }

    private static void allMustBeActive() {
        ChannelSpacer x = mixed(7);
        int[][] due = {{17, 0b11}, {26, 0b11}, {9, 0b101}, {42, 0b101}, {15, 0b110}, {39, 0b110}, {12, 0b111},
            {28, 0b111}, {34, 0b111}};
        for (int[] row : due) {
            for (int active = 0; active <= 7; active++) {
                int wanted = (active & row[1]) == row[1] ? 1 : 0;
                Check.due("29: heard(" + active + ", " + row[0] + ")", x.heard(active, row[0]), wanted);
            }
        }
    }

    private static void heardAtTheEnds() {
        ChannelSpacer x = loud(1, 20, 40, 17);
        x.addMixer(3);
        x.addMixer(6);
        Check.due("29: 2 * 20 - 40", x.heard(7, 0), 1);
        Check.due("29: 2 * 40 - 17", x.heard(7, 63), 2);
        Check.due("29: nothing active", x.heard(0, 0), 0);
        Check.due("29: one active", x.heard(1, 0), 0);
        Check.due("29: no mixers", mixed().heard(7, 17), 0);
        Check.due("29: no carriers", new ChannelSpacer().heard(0, 63), 0);
        // 2 * 0 - 1 and 2 * 63 - 62 are no channels, nor those that are 64 away from them.
        ChannelSpacer out = loud(1, 0, 1, 62, 63);
        out.addMixer(3);
        out.addMixer(12);
        Check.due("29: -1 is not 63", out.heard(3, 63), 0);
        Check.due("29: 64 is not 0", out.heard(12, 0), 0);
    }

    private static void heardIsStrongAndExact() {
        ChannelSpacer x = deskOf(20, 10, 23, 5);
        x.addMixer(3);
        x.setSpacing(5, 10);
        int[][] due = {{1, 25, 1, 0}, {1, 26, 0, 0}, {1, 20, 1, 1}, {1, 21, 1, 0}, {0, 0, 0, 0}, {2, 0, 0, 0}};
        for (int[] row : due) {
            x.setProducts(row[0], row[1], 300);
            String what = "with the kind set " + row[0] + " and the loss " + row[1];
            Check.due("29: 17 " + what, x.heard(3, 17), row[2]);
            Check.due("29: 26 " + what, x.heard(3, 26), row[3]);
            Check.due("29: beside 17 " + what, x.heard(3, 18) + x.heard(3, 16), 0);
        }
        x.setProducts(4, 0, 40);
        Check.due("29: the kind 2 with the level 0", x.heard(3, 14), 1);
        x.setProducts(4, 0, 41);
        Check.due("29: the kind 2 with the level -1", x.heard(3, 14), 0);
    }

    private static void heardIsRefused() {
        for (int set : new int[] {-1, 4, 1024, LOWEST, HIGHEST}) {
            Story.refused("29: set " + set, Desks::tested, ARGUMENT, x -> x.heard(set, 7));
        }
        for (int channel : new int[] {-1, 64, LOWEST, HIGHEST}) {
            Story.refused("29: channel " + channel, Desks::tested, ARGUMENT, x -> x.heard(3, channel));
        }
        Story.refused("29: without carriers", ChannelSpacer::new, ARGUMENT, x -> x.heard(1, 0));
        Story.refused("29: an eleventh of ten", Desks::ten, ARGUMENT, x -> x.heard(1024, 0));
    }

    // ---- 30 to 32

    private static void countOfDiagnoses() {
        int[] sets = {7, 7, 7, 7, 7};
        int all = 1;
        for (int mixers = 0; mixers <= 5; mixers++) {
            ChannelSpacer x = mixed(Arrays.copyOf(sets, mixers));
            Check.due("30: all sets of " + mixers, x.diagnoses(), all);
            Check.due("27: heard, by one of " + mixers + " at least", x.addTest(7, 17, true), all - 1);
            x.undo();
            Check.due("27: not heard, by none of " + mixers, x.addTest(7, 17, false), 1);
            x.undo();
            Check.due("27: where none makes anything", x.addTest(7, 0, false), all);
            Check.due("27: a sound where none makes anything", x.addTest(7, 0, true), 0);
            all *= 2;
        }
    }

    private static void emptyDiagnosis() {
        Check.due("31: without mixers", mixed().diagnosis(), 0);
        Check.due("31: without tests", mixed(7, 7, 7, 7, 7).diagnosis(), 0);
        ChannelSpacer x = mixed(7, 7, 7, 7, 7);
        x.addTest(7, 17, false);
        Check.due("31: none is bad", x.diagnosis(), 0);
        Check.due("32: none is bad", x.certain(false), 31);
        Check.due("32: none is bad in all", x.certain(true), 0);
        ChannelSpacer idle = mixed(1, 0);
        idle.addTest(7, 17, false);
        Check.due("30: idle mixers may be bad", idle.diagnoses(), 4);
        Check.due("32: nothing is certain of them", idle.certain(false) | idle.certain(true), 0);
    }

    private static void noDiagnosis() {
        ChannelSpacer x = mixed(7, 3, 5);
        Check.due("27: the first", x.addTest(7, 17, true), 6);
        Check.due("27: against it", x.addTest(7, 26, false), 0);
        Check.due("30: none", x.diagnoses(), 0);
        Check.due("31: none", x.diagnosis(), ChannelSpacer.NONE);
        Check.due("27: one more changes nothing", x.addTest(0, 0, false), 0);
        x.undo();
        x.undo();
        Check.due("30: undone", x.diagnoses(), 6);
        Check.due("31: undone", x.diagnosis(), 1);
    }

    private static void bestDiagnosis() {
        ChannelSpacer x = mixed(3, 5, 0, 0, 7);
        x.addTest(7, 17, true);
        Check.due("31: the smallest of one mixer", x.diagnosis(), 1);
        x.addTest(7, 9, true);
        Check.due("31: one great rather than two small", x.diagnosis(), 16);
        x.addTest(7, 12, false);
        Check.due("31: two, as the great one is good", x.diagnosis(), 3);
        ChannelSpacer last = mixed(0, 0, 0, 0, 3);
        last.addTest(3, 26, true);
        Check.due("31: the last alone", last.diagnosis(), 16);
        ChannelSpacer three = mixed(3, 3, 5, 6, 6);
        three.addTest(7, 17, true);
        three.addTest(7, 9, true);
        three.addTest(7, 15, true);
        Check.due("31: the smallest of three mixers", three.diagnosis(), 0b01101);
    }

    private static void certainOnes() {
        ChannelSpacer x = mixed(3, 5, 6, 7, 0);
        Check.due("32: bad without tests", x.certain(true), 0);
        Check.due("32: good without tests", x.certain(false), 0);
        x.addTest(7, 12, true);
        Check.due("32: only the mixer of all makes 12", x.certain(true), 8);
        Check.due("32: the others are open", x.certain(false), 0);
        x.undo();
        x.addTest(7, 12, false);
        Check.due("32: not bad, the mixer of all", x.certain(true), 0);
        Check.due("32: good, the mixer of all", x.certain(false), 8);
        x.addTest(7, 9, true);
        Check.due("32: then 0 and 2 make 9", x.certain(true), 2);
        x.addTest(7, 17, false);
        Check.due("32: and 0 and 1 are good", x.certain(false), 9);
        x.addTest(7, 39, true);
        Check.due("32: and 1 and 2 are bad", x.certain(true), 6);
        Check.due("30: the idle one is open", x.diagnoses(), 2);
        Check.due("32: so it is in neither", x.certain(true) | x.certain(false), 15);
    }

    /** The set of all mixers is a diagnosis as any other: none of them is bad in none then. */
    private static void certainOfAll() {
        ChannelSpacer one = mixed(3);
        one.addTest(3, 17, true);
        Check.due("32: the only one is bad", one.certain(true), 1);
        Check.due("32: the only one is not good", one.certain(false), 0);
        ChannelSpacer five = mixed(3, 5, 6, 7, 0);
        five.addTest(3, 17, true);
        five.addTest(5, 9, true);
        five.addTest(6, 15, true);
        Check.due("32: 7 or the first three", five.certain(true), 0);
        five.addTest(7, 12, true);
        Check.due("32: 7 is bad", five.certain(true), 8);
        Check.due("32: all may be bad", five.certain(false), 0);
        ChannelSpacer both = mixed(3, 5);
        both.addTest(7, 17, true);
        both.addTest(7, 9, true);
        Check.due("30: both together alone", both.diagnoses(), 1);
        Check.due("32: both are bad", both.certain(true), 3);
        Check.due("32: none is good", both.certain(false), 0);
    }

    private static void certainOfNone() {
        for (int mixers = 0; mixers <= 5; mixers++) {
            ChannelSpacer x = mixed(new int[mixers]);
            x.addTest(7, 17, true);
            Check.due("30: no diagnosis of " + mixers, x.diagnoses(), 0);
            Check.due("32: all " + mixers + " are bad in all of none", x.certain(true), (1 << mixers) - 1);
            Check.due("32: all " + mixers + " are bad in none", x.certain(false), (1 << mixers) - 1);
        }
    }

    // ---- 33

    private static void bestTestAtTheEnds() {
        ChannelSpacer low = loud(1, 20, 40);
        low.addMixer(3);
        Check.due("33: 0 and 60 tell the same", low.bestTest(3), 0);
        ChannelSpacer high = loud(1, 40, 17);
        high.addMixer(3);
        Check.due("33: only 63 tells something", high.bestTest(3), 63);
        Check.due("33: nothing active", high.bestTest(0), 0);
        Check.due("33: one active", high.bestTest(1), 0);
        high.setMember(0, 1, false);
        Check.due("33: one in the mixer", high.bestTest(3), 0);
        Check.due("33: no mixers", mixed().bestTest(7), 0);
        Check.due("33: no carriers", new ChannelSpacer().bestTest(0), 0);
        Check.due("33: the level -1", weak().bestTest(3), 0);
    }

    private static ChannelSpacer weak() {
        ChannelSpacer x = loud(1, 40, 17);
        x.addMixer(3);
        x.setProducts(1, 181, 0);
        return x;
    }

    private static void bestTestSplitsBest() {
        // Both make 17 and 26, which leaves 3 of 4; the second alone makes 9, 15 and more, which leaves 2.
        ChannelSpacer x = mixed(3, 7);
        Check.due("33: two of four", x.bestTest(7), 9);
        Check.due("33: three of four", x.bestTest(3), 17);
        Check.due("27: heard on 17", x.addTest(3, 17, true), 3);
        Check.due("33: two of three", x.bestTest(7), 9);
        Check.due("33: nothing new", x.bestTest(3), 0);
        Check.due("27: not heard on 9", x.addTest(7, 9, false), 1);
        Check.due("33: one diagnosis", x.bestTest(7), 0);
        // 15, which two of the three make, leaves 6 of 8 if it is heard; 17, of the other one, leaves 4 at all events.
        ChannelSpacer y = mixed(3, 6, 6);
        Check.due("33: heard by one of three", y.bestTest(7), 17);
        Check.due("27: not heard by that one", y.addTest(3, 17, false), 4);
        Check.due("33: heard by two of two", y.bestTest(7), 15);
    }

    private static void bestTestOfOneOrNone() {
        ChannelSpacer one = mixed(3);
        one.addTest(3, 17, true);
        Check.due("30: one diagnosis", one.diagnoses(), 1);
        Check.due("33: every channel tells the same", one.bestTest(3), 0);
        one.addTest(3, 26, false);
        Check.due("30: no diagnosis", one.diagnoses(), 0);
        Check.due("33: every channel tells nothing", one.bestTest(3), 0);
    }

    private static void bestTestIsRefused() {
        for (int set : new int[] {-1, 4, 1024, LOWEST, HIGHEST}) {
            Story.refused("33: set " + set, Desks::tested, ARGUMENT, x -> x.bestTest(set));
        }
        Story.refused("33: without carriers", ChannelSpacer::new, ARGUMENT, x -> x.bestTest(1));
        Story.refused("33: an eleventh of ten", Desks::ten, ARGUMENT, x -> x.bestTest(1024));
    }
}
