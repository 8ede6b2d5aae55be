/** The boundary cases of the promises 19 to 23: rulers, openings, and what is put in there. */
public final class SpanEdgeTest extends Desks {
    private SpanEdgeTest() {
    }

    public static void main(String[] args) {
        oneMark();
        spanEndsAt40();
        bestRulersBySpacing();
        bestRulersByGuard();
        firstOfSeveralRulers();
        rulersHaveTheLevel60();
        rulersStandAlone();
        marksAreRefused();
        rulersOfEachSpan();
        rulersAtTheSpacing();
        outOfTheBandDoesNotCount();
        openingsWithoutCarriers();
        openingsAtTheSpacing();
        openingsAtTheGuard();
        openingsByTheLevel();
        openingsOfTheUnclean();
        openingsWithTen();
        openingsAreRefused();
        putInAtTheEnds();
        putInTheTenth();
        putInNowhere();
        putInIsRefused();
        Check.end();
    }

    private static ChannelSpacer settings(int kinds, int guard, int spacing) {
        ChannelSpacer x = new ChannelSpacer();
        x.setProducts(kinds, 0, 0);
        x.setSpacing(guard, spacing);
        return x;
    }

    private static void best(String what, ChannelSpacer x, int marks, int span, long channels) {
        Check.due("19: leastSpan(" + marks + ") " + what, x.leastSpan(marks), span);
        Check.due("20: bestRuler(" + marks + ") " + what, x.bestRuler(marks), channels);
    }

    // ---- 19 and 20

    private static void oneMark() {
        for (int kinds = 0; kinds <= 7; kinds += 7) {
            for (int guard = 0; guard <= 5; guard += 5) {
                best("with the guard " + guard, settings(kinds, guard, 10), 1, 0, 1);
                Check.due("21: rulers(1, 0)", settings(kinds, guard, 10).rulers(1, 0), 1);
                Check.due("21: rulers(1, 1)", settings(kinds, guard, 1).rulers(1, 1), 0);
                Check.due("21: rulers(1, 40)", settings(kinds, guard, 1).rulers(1, 40), 0);
            }
        }
    }

    private static void spanEndsAt40() {
        best("with the spacing 8", settings(0, 0, 8), 6, 40, bits(0, 8, 16, 24, 32, 40));
        best("with the spacing 9", settings(0, 0, 9), 6, ChannelSpacer.NONE, 0);
        best("with the spacing 10", settings(0, 0, 10), 6, ChannelSpacer.NONE, 0);
        best("with the spacing 10", settings(0, 5, 10), 5, 40, bits(0, 10, 20, 30, 40));
        best("with the spacing 10", settings(0, 5, 10), 4, 30, bits(0, 10, 20, 30));
        best("with kind 0 and the spacing 10, none by the hits", settings(1, 0, 10), 5, ChannelSpacer.NONE, 0);
    }

    private static void bestRulersBySpacing() {
        for (int spacing = 1; spacing <= 10; spacing++) {
            best("with the spacing " + spacing, settings(3, 0, spacing), 2, spacing, bits(0, spacing));
            int span = 2 * spacing + 1;
            best("with the spacing " + spacing, settings(3, 0, spacing), 3, span, bits(0, spacing, span));
            best("with the spacing " + spacing + ", nothing on", settings(0, 5, spacing), 3, 2 * spacing,
                    bits(0, spacing, 2 * spacing));
        }
    }

    /** Of the kind 0, two marks s apart hit each other with a guard of s at least; of the kind 2, with 2 * s. */
    private static void bestRulersByGuard() {
        for (int guard = 0; guard <= 5; guard++) {
            best("with the guard " + guard, settings(1, guard, 1), 2, guard + 1, bits(0, guard + 1));
            int span = guard / 2 + 1;
            best("with the guard " + guard + ", kind 2", settings(4, guard, 1), 2, span, bits(0, span));
            best("with the guard " + guard + ", kind 1", settings(2, guard, 1), 2, 1, bits(0, 1));
        }
    }

    private static void firstOfSeveralRulers() {
        ChannelSpacer x = new ChannelSpacer();
        Check.due("21: 0, 1, 4, 6 and 0, 2, 5, 6", x.rulers(4, 6), 2);
        best("the first of two", x, 4, 6, bits(0, 1, 4, 6));
        Check.due("21: four of five marks", x.rulers(5, 11), 4);
        best("the first of four", x, 5, 11, bits(0, 1, 4, 9, 11));
        best("the first of eight", x, 6, 17, bits(0, 1, 4, 10, 12, 17));
        // As a bit set, 0, 2, 3 would be the greater one, but 0, 1, 3 comes first by its channels.
        best("by channels, not by bits", x, 3, 3, bits(0, 1, 3));
    }

    private static void rulersHaveTheLevel60() {
        ChannelSpacer x = new ChannelSpacer();
        x.setProducts(3, 180, 0);
        best("with the level 0", x, 3, 3, bits(0, 1, 3));
        x.setProducts(3, 181, 0);
        best("with the level -1", x, 3, 2, bits(0, 1, 2));
        Check.due("21: with the level -1", x.rulers(3, 2), 1);
        x.setProducts(3, 180, 0);
        Check.due("21: with the level 0", x.rulers(3, 2), 0);
        x.setProducts(4, 0, 300);
        x.setSpacing(1, 1);
        best("of the kind 2 with the level 0 and the guard 1", x, 2, 1, bits(0, 1));
        x.setSpacing(2, 1);
        best("of the kind 2 with the level 0 and the guard 2", x, 2, 2, bits(0, 2));
    }

    /** The carriers of the desk, their levels and its mixers do not matter for rulers. */
    private static void rulersStandAlone() {
        ChannelSpacer x = ten();
        x.addMixer(1023);
        x.addTest(1, 1, true);
        ChannelSpacer none = new ChannelSpacer();
        for (int marks = 1; marks <= 6; marks++) {
            best("with ten carriers", x, marks, none.leastSpan(marks), none.bestRuler(marks));
        }
        Check.due("21: with ten carriers", x.rulers(5, 20), none.rulers(5, 20));
        Check.due("10: the carriers stay", x.channels(), 1023);
        Check.due("8: the tests stay", x.size(2), 1);
    }

    private static void marksAreRefused() {
        for (int marks : new int[] {0, -1, 7, LOWEST, HIGHEST}) {
            Story.refused("19: marks " + marks, Desks::tested, ARGUMENT, x -> x.leastSpan(marks));
            Story.refused("20: marks " + marks, Desks::tested, ARGUMENT, x -> x.bestRuler(marks));
        }
        for (int marks : new int[] {0, -1, 6, 7, LOWEST, HIGHEST}) {
            Story.refused("21: marks " + marks, Desks::tested, ARGUMENT, x -> x.rulers(marks, 0));
            Story.refused("21: marks " + marks + ", span wrong too", Desks::tested, ARGUMENT, x -> x.rulers(marks, 41));
        }
        for (int span : new int[] {-1, 41, LOWEST, HIGHEST}) {
            Story.refused("21: span " + span, Desks::tested, ARGUMENT, x -> x.rulers(1, span));
            Story.refused("21: span " + span, Desks::tested, ARGUMENT, x -> x.rulers(5, span));
        }
    }

    // ---- 21

    /** Without products, the marks between 0 and the span are free: so many out of span - 1 channels. */
    private static void rulersOfEachSpan() {
        ChannelSpacer x = settings(0, 5, 1);
        for (int span = 0; span <= 40; span++) {
            int inner = span - 1;
            Check.due("21: rulers(2, " + span + ")", x.rulers(2, span), span == 0 ? 0 : 1);
            Check.due("21: rulers(3, " + span + ")", x.rulers(3, span), span == 0 ? 0 : inner);
            Check.due("21: rulers(4, " + span + ")", x.rulers(4, span), span == 0 ? 0 : inner * (inner - 1) / 2);
            Check.due("21: rulers(5, " + span + ")", x.rulers(5, span),
                    span == 0 ? 0 : inner * (inner - 1) * (inner - 2) / 6);
        }
    }

    private static void rulersAtTheSpacing() {
        for (int spacing = 1; spacing <= 10; spacing++) {
            ChannelSpacer x = settings(0, 5, spacing);
            for (int marks = 2; marks <= 5; marks++) {
                int least = (marks - 1) * spacing;
                String what = marks + " marks with the spacing " + spacing;
                Check.due("21: just room for " + what, x.rulers(marks, least), 1);
                Check.due("21: no room for " + what, x.rulers(marks, least - 1), 0);
                if (least < 40) {
                    Check.due("21: one more channel for " + what, x.rulers(marks, least + 1), marks - 1);
                }
            }
        }
    }

    /**
     * 0, 3 and 5 make of the kind 2 the channels -10, -6, -1, 9, 9 and 15: -1 would hit 0 with the guard 1, were it
     * in the band. 0, 2, 5 are hit by 6, and 0, 1, 5 and 0, 4, 5 are not.
     */
    private static void outOfTheBandDoesNotCount() {
        Check.due("21: kind 2 with the guard 1, span 5", settings(4, 1, 1).rulers(3, 5), 3);
        ChannelSpacer x = loud(4, 0, 3, 5);
        x.setSpacing(1, 1);
        Check.due("16: the same as carriers", x.isClean(), true);
        x.shift(1);
        Check.due("16: one channel higher the product is in the band", x.isClean(), false);
    }

    // ---- 22

    private static void openingsWithoutCarriers() {
        for (int level : new int[] {0, 60}) {
            Check.due("22: without carriers, level " + level, settings(7, 5, 10).openings(level), -1);
        }
    }

    private static void openingsAtTheSpacing() {
        for (int spacing = 1; spacing <= 10; spacing++) {
            for (int channel : new int[] {0, 5, 31, 32, 58, 63}) {
                ChannelSpacer x = loud(0, channel);
                x.setSpacing(0, spacing);
                long due = 0;
                for (int open = 0; open <= 63; open++) {
                    due |= open <= channel - spacing || open >= channel + spacing ? 1L << open : 0;
                }
                Check.due("22: beside " + channel + " with the spacing " + spacing, x.openings(60), due);
            }
        }
    }

    /** A carrier on 30 and one step from it make products that are step and 2 * step from them. */
    private static void openingsAtTheGuard() {
        for (int guard = 0; guard <= 5; guard++) {
            ChannelSpacer x = loud(1, 30);
            x.setSpacing(guard, 1);
            long shut = 0;
            for (int channel = 30 - guard; channel <= 30 + guard; channel++) {
                shut |= 1L << channel;
            }
            Check.due("22: beside 30 with the guard " + guard, x.openings(0), ~shut);
        }
        // Beside 0, its neighbour makes -1, which is out of the band, and 2, which hits the neighbour with the guard 1.
        ChannelSpacer low = loud(1, 0);
        low.setSpacing(1, 1);
        Check.due("22: beside 0 with the guard 1", low.openings(0), ~3L);
        ChannelSpacer high = loud(1, 63);
        high.setSpacing(1, 1);
        Check.due("22: beside 63 with the guard 1", high.openings(0), -1L >>> 2);
    }

    /** A new one on 24 with the level L makes, with 20, the channel 28; its level is 2 * L + 60 - 120. */
    private static void openingsByTheLevel() {
        ChannelSpacer x = deskOf(20, 60, 28, 0);
        x.setProducts(1, 120, 0);
        Check.due("22: the level 0 on 28", x.openings(30) >> 24 & 1, 0);
        Check.due("22: the level -2 on 28", x.openings(29) >> 24 & 1, 1);
        // 28 makes 20 with a new one on 36; its level is 2 * 30 + L - 120.
        ChannelSpacer y = deskOf(20, 10, 28, 30);
        y.setProducts(1, 120, 0);
        Check.due("22: the level 0 on 20", y.openings(60) >> 36 & 1, 0);
        Check.due("22: the level -1 on 20", y.openings(59) >> 36 & 1, 1);
        // 2 * 28 - 20 hits a new one on 36, whatever its own level is.
        ChannelSpacer z = deskOf(20, 60, 28, 30);
        z.setProducts(1, 120, 0);
        Check.due("22: hit with the level 0", z.openings(0) >> 36 & 1, 0);
        z.setProducts(1, 121, 0);
        Check.due("22: not hit with the level -1", z.openings(0) >> 36 & 1, 1);
    }

    private static void openingsOfTheUnclean() {
        Check.due("22: unclean by hits", loud(3, 10, 20, 30).openings(0), 0);
        ChannelSpacer close = loud(0, 10, 12);
        close.setSpacing(0, 3);
        Check.due("22: unclean by the spacing", close.openings(0), 0);
        close.setSpacing(0, 2);
        Check.due("22: clean again", close.openings(0), ~bits(9, 10, 11, 12, 13));
    }

    private static void openingsWithTen() {
        ChannelSpacer x = loud(0, 0, 7, 14, 21, 28, 35, 42, 49, 56, 63);
        Check.due("22: ten carriers", x.openings(60), ~x.channels());
        x.setSpacing(0, 3);
        Check.due("22: ten carriers with the spacing 3", x.openings(0) & 127, bits(3, 4));
        x.setSpacing(0, 4);
        Check.due("22: ten carriers with the spacing 4", x.openings(0), 0);
        ChannelSpacer ruler = loud(3, 0, 1, 6, 10, 23, 26, 34, 41, 53, 55);
        Check.due("16: the ruler of ten", ruler.isClean(), true);
        long open = ruler.openings(60);
        ChannelSpacer nine = loud(3, 0, 1, 6, 10, 23, 26, 34, 41, 53);
        Check.due("22: what is open with nine holds what is open with ten", open & ~nine.openings(60), 0);
        Check.due("22: and the tenth", nine.openings(60) >> 55 & 1, 1);
        Check.due("8: nothing was put in", ruler.size(0), 10);
    }

    private static void openingsAreRefused() {
        for (int level : new int[] {-1, 61, LOWEST, HIGHEST}) {
            Story.refused("22: level " + level, Desks::tested, ARGUMENT, x -> x.openings(level));
            Story.refused("22: level " + level + " without carriers", ChannelSpacer::new, ARGUMENT,
                    x -> x.openings(level));
        }
    }

    // ---- 23

    private static void putInAtTheEnds() {
        ChannelSpacer first = new ChannelSpacer();
        Check.due("23: into an empty band", first.putIn(0), 0);
        Check.due("23: its level", first.carrier(0, true), 0);
        ChannelSpacer last = deskOf(0, 0, 10, 0, 20, 0, 30, 0, 40, 0, 53, 0);
        last.setProducts(0, 0, 0);
        last.setSpacing(0, 10);
        Check.due("22: only the end is open", last.openings(60), Long.MIN_VALUE);
        Check.due("23: the channel 63", last.putIn(60), 63);
        Check.due("23: its number is the last", last.carrier(6, false), 63);
        Check.due("23: its level", last.carrier(6, true), 60);
        Check.due("23: then there is none", last.putIn(60), ChannelSpacer.NONE);
    }

    private static void putInTheTenth() {
        ChannelSpacer x = new ChannelSpacer();
        x.setProducts(0, 0, 0);
        for (int number = 0; number < 10; number++) {
            Check.due("23: the lowest", x.putIn(number), number);
            Check.due("8: carriers", x.size(0), number + 1);
        }
        Check.refused("23: an eleventh", x, STATE, () -> x.putIn(0));
        Check.due("37: the tenth is undone", x.undo(), 3);
        Check.due("8: nine carriers", x.size(0), 9);
        Check.due("23: the tenth again", x.putIn(60), 9);
    }

    /** A test, and carriers that leave no channel ten away from all. */
    private static ChannelSpacer crowded() {
        ChannelSpacer x = loud(0, 9, 28, 47, 63);
        x.setSpacing(0, 10);
        x.addMixer(3);
        x.addTest(3, 5, false);
        return x;
    }

    private static void putInNowhere() {
        Check.due("16: clean, but full", crowded().isClean(), true);
        Check.due("22: clean, but full", crowded().openings(0), 0);
        Check.due("23: none", crowded().putIn(0), ChannelSpacer.NONE);
        Story.changesNothing("23: none", SpanEdgeTest::crowded, x -> x.putIn(60));
        Story.changesNothing("23: none of the unclean", () -> loud(3, 10, 20, 30), x -> x.putIn(60));
        ChannelSpacer x = crowded();
        x.putIn(0);
        Check.due("23: the tests stay", x.size(2), 1);
        x.removeCarrier(3);
        Check.due("23: and there is one", x.putIn(0), 57);
        Check.due("23: which drops the tests", x.size(2), 0);
    }

    private static void putInIsRefused() {
        for (int level : new int[] {-1, 61, LOWEST, HIGHEST}) {
            Story.refused("23: level " + level, Desks::tested, ARGUMENT, x -> x.putIn(level));
            Story.refused("23: level " + level + " with ten", Desks::ten, ARGUMENT, x -> x.putIn(level));
            Story.refused("23: level " + level + " without room", SpanEdgeTest::crowded, ARGUMENT,
                    x -> x.putIn(level));
        }
        Story.refused("23: ten without openings", Desks::ten, STATE, x -> x.putIn(0));
        Story.refused("23: ten with openings", () -> loud(0, 0, 1, 2, 3, 4, 5, 6, 7, 8, 9), STATE, x -> x.putIn(0));
    }
}
