/** The boundary cases of the promises 11 to 18: products, hits, what is clean, and what must go for it. */
public final class ProductEdgeTest extends Desks {
    private ProductEdgeTest() {
    }

    public static void main(String[] args) {
        strongAtLevelZero();
        eachOrderHasItsLoss();
        bandOfKind0();
        bandOfKind1();
        bandOfKind2();
        fewCarriersMakeFewProducts();
        theMostProducts();
        orderFollowsNumbers();
        orderOfTriples();
        factsAtTheEnds();
        productIsRefused();
        falloutOfSets();
        falloutIsRefused();
        guardReachesJustSoFar();
        productsHitTheirOwnCarriers();
        kind1HitsItsOwnThird();
        pairsAreCounted();
        noHitsFromOutOfTheBand();
        hitsOnIsRefused();
        cleanAtTheSpacing();
        cleanAtTheGuard();
        cleanAtTheLevel();
        cleanByEachKind();
        cleanInAnyOrder();
        closestOfFewAndFar();
        nothingToRemove();
        removalPrefersFew();
        removalPrefersSmall();
        removalOfMany();
        Check.end();
    }

    // ---- 11

    /** Carriers whose products have levels of their own: kind 0: 25 and 20; kind 2: 40 and 35. */
    private static void strongAtLevelZero() {
        ChannelSpacer x = deskOf(20, 10, 23, 5);
        int[][] due = {{1, 20, 0, 2}, {1, 21, 0, 1}, {1, 25, 0, 1}, {1, 26, 0, 0}, {4, 0, 35, 2}, {4, 0, 36, 1},
            {4, 0, 40, 1}, {4, 0, 41, 0}};
        for (int[] row : due) {
            x.setProducts(row[0], row[1], row[2]);
            String what = "11: products() with the kind set " + row[0] + " and the losses " + row[1] + ", " + row[2];
            Check.due(what, x.products(), row[3]);
        }
        x.setProducts(1, 25, 0);
        Check.due("12: the level 0", x.product(0, 5), 0);
        ChannelSpacer triple = deskOf(20, 1, 23, 2, 31, 3);
        triple.setProducts(2, 6, 0);
        Check.due("11: the kind 1 with the level 0", triple.products(), 3);
        Check.due("12: the kind 1 with the level 0", triple.product(2, 5), 0);
        triple.setProducts(2, 7, 0);
        Check.due("11: the kind 1 with the level -1", triple.products(), 0);
        Check.due("13: the kind 1 with the level -1", triple.fallout(7), 0);
    }

    private static void eachOrderHasItsLoss() {
        ChannelSpacer x = loud(7, 20, 23, 31);
        x.setProducts(7, 180, 300);
        Check.due("11: all have the level 0", x.products(), 14);
        x.setProducts(7, 181, 300);
        Check.due("11: order 3 has the level -1", x.products(), 5);
        x.setProducts(3, 180, 300);
        Check.due("11: order 3 has nothing of the loss of order 5", x.product(0, 5), 0);
        x.setProducts(4, 300, 0);
        Check.due("11: order 5 has nothing of the loss of order 3", x.product(0, 5), 300);
        ChannelSpacer silent = deskOf(20, 0, 23, 0, 31, 0);
        silent.setProducts(7, 0, 0);
        Check.due("11: carriers of the level 0 without losses", silent.products(), 14);
        silent.setProducts(7, 1, 1);
        Check.due("11: carriers of the level 0 with losses", silent.products(), 0);
    }

    /** The kind set, the channels on which products fall (as a bit set), how many they are, and the carriers. */
    private static void falls(int kinds, long due, int count, int... channels) {
        ChannelSpacer x = loud(kinds, channels);
        StringBuilder what = new StringBuilder("of the kind set " + kinds + " of carriers on");
        for (int channel : channels) {
            what.append(' ').append(channel);
        }
        Check.due("11: products() " + what, x.products(), count);
        Check.due("13: fallout() " + what, x.fallout((1 << channels.length) - 1), due);
    }

    private static void bandOfKind0() {
        falls(1, bits(0, 60), 2, 20, 40);
        falls(1, bits(62), 1, 20, 41);
        falls(1, bits(63), 1, 40, 17);
        falls(1, 0, 0, 40, 16);
        falls(1, 0, 0, 0, 63);
        falls(1, bits(2), 1, 0, 1);
        falls(1, bits(61), 1, 62, 63);
    }

    private static void bandOfKind1() {
        falls(2, bits(0, 20, 40), 3, 10, 20, 30);
        falls(2, bits(21, 41), 2, 10, 20, 31);
        falls(2, bits(17, 63), 2, 40, 30, 7);
        falls(2, bits(16), 1, 40, 30, 6);
        falls(2, bits(1, 3), 2, 0, 1, 2);
        falls(2, bits(60, 62), 2, 61, 62, 63);
    }

    private static void bandOfKind2() {
        falls(4, bits(0, 50), 2, 20, 30);
        falls(4, bits(49), 1, 19, 29);
        falls(4, bits(8, 63), 2, 41, 30);
        falls(4, bits(4), 1, 40, 28);
        falls(4, 0, 0, 0, 63);
        falls(4, bits(3), 1, 0, 1);
        falls(4, bits(60), 1, 62, 63);
    }

    private static void fewCarriersMakeFewProducts() {
        Check.due("11: no carrier", loud(7).products(), 0);
        Check.due("11: one carrier", loud(7, 30).products(), 0);
        Check.due("11: two carriers make no kind 1", loud(2, 30, 31).products(), 0);
        Check.due("11: two carriers", loud(7, 30, 31).products(), 4);
        Check.due("11: three carriers", loud(7, 30, 31, 33).products(), 15);
        Check.due("11: nothing on", loud(0, 30, 31, 33).products(), 0);
        ChannelSpacer x = loud(7, 30, 31, 33);
        x.removeCarrier(2);
        Check.due("11: those of a removed one are gone", x.products(), 4);
        Story.refused("12: and not to be asked", () -> loud(7, 30, 31), INDEX, y -> y.product(4, 0));
    }

    private static ChannelSpacer dense() {
        return loud(7, 27, 28, 29, 30, 31, 32, 33, 34, 35, 36);
    }

    private static void theMostProducts() {
        ChannelSpacer x = dense();
        Check.due("11: all of ten carriers", x.products(), 540);
        int[][] due = {{0, 0, 0, 1, -1, 26}, {89, 0, 9, 8, -1, 37}, {90, 1, 0, 1, 2, 26}, {449, 1, 8, 9, 7, 37},
            {450, 2, 0, 1, -1, 25}, {539, 2, 9, 8, -1, 38}};
        for (int[] row : due) {
            for (int what = 0; what <= 4; what++) {
                Check.due("12: product(" + row[0] + ", " + what + ")", x.product(row[0], what), row[1 + what]);
            }
        }
        Story.refused("12: the 541st", ProductEdgeTest::dense, INDEX, y -> y.product(540, 0));
    }

    // ---- 12

    /** The numbers do not follow the channels here: a is the lower number, not the lower channel. */
    private static void orderFollowsNumbers() {
        ChannelSpacer x = loud(7, 31, 20, 23);
        int[][] due = {
            {0, 0, 1, -1, 42}, {0, 0, 2, -1, 39}, {0, 1, 0, -1, 9}, {0, 1, 2, -1, 17}, {0, 2, 0, -1, 15},
            {0, 2, 1, -1, 26}, {1, 0, 1, 2, 28}, {1, 0, 2, 1, 34}, {1, 1, 2, 0, 12}, {2, 0, 1, -1, 53},
            {2, 0, 2, -1, 47}, {2, 1, 2, -1, 14}, {2, 2, 0, -1, 7}, {2, 2, 1, -1, 29},
        };
        Check.due("11: without 3 * 20 - 2 * 31", x.products(), due.length);
        for (int index = 0; index < due.length; index++) {
            for (int what = 0; what <= 4; what++) {
                Check.due("12: product(" + index + ", " + what + ")", x.product(index, what), due[index][what]);
            }
        }
    }

    private static void orderOfTriples() {
        ChannelSpacer x = loud(2, 23, 28, 20, 31);
        int[] channels = {23, 28, 20, 31};
        int[][] due = {{0, 1, 2}, {0, 1, 3}, {0, 2, 1}, {0, 2, 3}, {0, 3, 1}, {0, 3, 2}, {1, 2, 0}, {1, 2, 3},
            {1, 3, 0}, {1, 3, 2}, {2, 3, 0}, {2, 3, 1}};
        Check.due("11: triples of four", x.products(), due.length);
        for (int index = 0; index < due.length; index++) {
            int[] row = due[index];
            for (int what = 1; what <= 3; what++) {
                Check.due("12: triple(" + index + ", " + what + ")", x.product(index, what), row[what - 1]);
            }
            int channel = channels[row[0]] + channels[row[1]] - channels[row[2]];
            Check.due("12: channel of the triple " + index, x.product(index, 4), channel);
        }
    }

    private static void factsAtTheEnds() {
        Check.due("12: the channel 0", loud(1, 20, 40).product(0, 4), 0);
        Check.due("12: the channel 63", loud(1, 40, 17).product(0, 4), 63);
        Check.due("12: the greatest level of the kind 0", loud(1, 20, 40).product(1, 5), 180);
        Check.due("12: the greatest level of the kind 1", loud(2, 20, 23, 31).product(2, 5), 180);
        Check.due("12: the greatest level of the kind 2", loud(4, 20, 23).product(0, 5), 300);
        Check.due("12: no c of the kind 0", loud(1, 20, 40).product(0, 3), ChannelSpacer.NONE);
        Check.due("12: no c of the kind 2", loud(4, 20, 23).product(1, 3), ChannelSpacer.NONE);
        Check.due("12: c of the kind 1", loud(2, 20, 23, 31).product(2, 3), 0);
        ChannelSpacer x = deskOf(20, 3, 23, 50, 31, 7);
        x.setProducts(7, 9, 11);
        Check.due("12: 2 * 3 + 50 - 9", x.product(0, 5), 47);
        Check.due("12: 3 + 50 + 7 - 9", x.product(6, 5), 51);
        Check.due("12: 3 * 3 + 2 * 50 - 11", x.product(9, 5), 98);
    }

    private static void productIsRefused() {
        for (int what : new int[] {0, 5, -1, 6}) {
            Story.refused("12: no carriers, what " + what, ChannelSpacer::new, INDEX, x -> x.product(0, what));
            Story.refused("12: nothing on, what " + what, () -> loud(0, 20, 23), INDEX, x -> x.product(0, what));
            for (int index : new int[] {-1, 2, 540, LOWEST, HIGHEST}) {
                Story.refused("12: index " + index + ", what " + what, Desks::tested, INDEX,
                        x -> x.product(index, what));
            }
        }
        for (int what : new int[] {-1, 6, LOWEST, HIGHEST}) {
            Story.refused("12: the first one, what " + what, Desks::tested, ARGUMENT, x -> x.product(0, what));
            Story.refused("12: the last one, what " + what, Desks::tested, ARGUMENT, x -> x.product(1, what));
        }
    }

    // ---- 13

    private static void falloutOfSets() {
        ChannelSpacer x = loud(7, 20, 23, 31);
        Check.due("13: none", x.fallout(0), 0);
        for (int one : new int[] {1, 2, 4}) {
            Check.due("13: one carrier, set " + one, x.fallout(one), 0);
        }
        Check.due("13: two", x.fallout(3), bits(17, 26, 14, 29));
        Check.due("13: the first and the last", x.fallout(5), bits(9, 42, 53));
        Check.due("13: the last two", x.fallout(6), bits(15, 39, 7, 47));
        Check.due("13: all", x.fallout(7), bits(17, 26, 14, 29, 9, 42, 53, 15, 39, 7, 47, 12, 28, 34));
        Check.due("13: the channel 63", loud(1, 40, 17).fallout(3), Long.MIN_VALUE);
        Check.due("13: the channel 0", loud(4, 20, 30).fallout(3) & 1, 1);
        // The kinds 0 and 1 fall on 18 to 45, and the kind 2 beside them on 9, 11 to 17, 46 to 52 and 54.
        Check.due("13: all ten", dense().fallout(1023), bits(9, 54) | (1L << 53) - (1L << 11));
    }

    private static void falloutIsRefused() {
        for (int set : new int[] {-1, 4, 5, 7, 1024, LOWEST, HIGHEST}) {
            Story.refused("13: set " + set, Desks::tested, ARGUMENT, x -> x.fallout(set));
        }
        Story.refused("13: no carriers", ChannelSpacer::new, ARGUMENT, x -> x.fallout(1));
        Story.refused("13: an eleventh of ten", Desks::ten, ARGUMENT, x -> x.fallout(1024));
        Story.refused("13: an eleventh beside ten", Desks::ten, ARGUMENT, x -> x.fallout(2047));
        Story.refused("13: negative with ten", Desks::ten, ARGUMENT, x -> x.fallout(-1024));
    }

    // ---- 14 and 15

    /** The first two make the strong products 10 and 40 alone; the third one is weak. */
    private static ChannelSpacer listener(int channel, int guard) {
        ChannelSpacer x = deskOf(20, 60, 30, 60, channel, 0);
        x.setProducts(1, 180, 0);
        x.setSpacing(guard, 1);
        return x;
    }

    private static void guardReachesJustSoFar() {
        for (int guard = 0; guard <= 5; guard++) {
            for (int away = 0; away <= 6; away++) {
                int due = away <= guard ? 1 : 0;
                for (int channel : new int[] {10 - away, 10 + away, 40 - away, 40 + away}) {
                    ChannelSpacer x = listener(channel, guard);
                    String what = "a carrier on " + channel + " with the guard " + guard;
                    Check.due("15: hitsOn() " + what, x.hitsOn(2), due);
                    Check.due("14: hits() " + what, x.hits(), due);
                    Check.due("16: isClean() " + what, x.isClean(), due == 0);
                }
            }
        }
    }

    /** 20 and 20 + step make 20 - step and 20 + 2 * step, each a step from the one, and two from the other. */
    private static void productsHitTheirOwnCarriers() {
        for (int step = 1; step <= 6; step++) {
            for (int guard = 0; guard <= 5; guard++) {
                ChannelSpacer x = loud(1, 20, 20 + step);
                x.setSpacing(guard, 1);
                int due = (guard >= step ? 1 : 0) + (guard >= 2 * step ? 1 : 0);
                String what = "carriers " + step + " apart with the guard " + guard;
                Check.due("15: on the first of " + what, x.hitsOn(0), due);
                Check.due("15: on the second of " + what, x.hitsOn(1), due);
                Check.due("14: on both of " + what, x.hits(), 2 * due);
            }
        }
    }

    private static void kind1HitsItsOwnThird() {
        ChannelSpacer x = loud(2, 10, 20, 30);
        Check.due("15: 10 + 30 - 20 on 20", x.hitsOn(1), 1);
        Check.due("14: and nowhere else", x.hits(), 1);
        Check.due("16: not clean", x.isClean(), false);
        Check.due("14: not with 21", loud(2, 10, 21, 30).hits(), 0);
        x.setProducts(5, 0, 0);
        Check.due("15: the other kinds hit their own carriers by the guard alone", x.hitsOn(1), 0);
    }

    private static void pairsAreCounted() {
        ChannelSpacer two = deskOf(20, 60, 30, 60, 9, 0, 11, 0);
        two.setProducts(1, 180, 0);
        Check.due("14: one product between two carriers", two.hits(), 0);
        two.setSpacing(1, 1);
        Check.due("14: one product on two carriers", two.hits(), 2);
        ChannelSpacer x = loud(1, 10, 20, 30, 40);
        Check.due("14: four at equal distances, kind 0", x.hits(), 4);
        x.setProducts(2, 0, 0);
        Check.due("14: four at equal distances, kind 1", x.hits(), 6);
        x.setProducts(3, 0, 0);
        int[] due = {2, 3, 3, 2};
        for (int carrier = 0; carrier < 4; carrier++) {
            Check.due("15: two products of one channel count twice, on " + carrier, x.hitsOn(carrier), due[carrier]);
        }
        Check.due("14: four at equal distances", x.hits(), 10);
        x.setProducts(4, 0, 0);
        Check.due("14: 3 * 20 - 2 * 10 and 3 * 30 - 2 * 40 among them", x.hits(), 2);
    }

    private static void noHitsFromOutOfTheBand() {
        int[][] due = {
            // carriers that are strong, a weak one, and the hits on it with the guard 5
            {20, 41, 0, 0}, {20, 40, 0, 1}, {20, 40, 5, 1}, {20, 40, 6, 0},
            {40, 16, 63, 0}, {40, 17, 63, 1}, {40, 17, 58, 1}, {40, 17, 57, 0},
        };
        for (int[] row : due) {
            ChannelSpacer x = deskOf(row[0], 60, row[1], 60, row[2], 0);
            x.setProducts(1, 180, 0);
            x.setSpacing(5, 1);
            String what = row[0] + " and " + row[1] + " on " + row[2];
            Check.due("15: " + what, x.hitsOn(2), row[3]);
            Check.due("14: " + what, x.hits() - x.hitsOn(0) - x.hitsOn(1), row[3]);
        }
        ChannelSpacer low = loud(1, 0, 1);
        low.setSpacing(1, 1);
        Check.due("15: -1 does not hit 0", low.hitsOn(0), 0);
        Check.due("15: 2 hits 1", low.hitsOn(1), 1);
        ChannelSpacer high = loud(1, 62, 63);
        high.setSpacing(1, 1);
        Check.due("15: 64 does not hit 63", high.hitsOn(1), 0);
        Check.due("15: 61 hits 62", high.hitsOn(0), 1);
    }

    private static void hitsOnIsRefused() {
        Story.refused("15: no carriers", ChannelSpacer::new, INDEX, x -> x.hitsOn(0));
        for (int carrier : new int[] {-1, 2, 10, LOWEST, HIGHEST}) {
            Story.refused("15: carrier " + carrier, Desks::tested, INDEX, x -> x.hitsOn(carrier));
        }
        Story.refused("15: the eleventh of ten", Desks::ten, INDEX, x -> x.hitsOn(10));
        Check.due("14: one carrier", deskOf(0, 60).hits(), 0);
        Check.due("15: one carrier", deskOf(0, 60).hitsOn(0), 0);
        ChannelSpacer x = dense();
        int sum = 0;
        for (int carrier = 0; carrier < 10; carrier++) {
            sum += x.hitsOn(carrier);
        }
        Check.due("14: the sum of those on each", x.hits(), sum);
    }

    // ---- 16

    private static void cleanAtTheSpacing() {
        Check.due("16: no carriers", new ChannelSpacer().isClean(), true);
        for (int spacing = 1; spacing <= 10; spacing++) {
            for (int gap = 1; gap <= 11; gap++) {
                for (boolean first : new boolean[] {false, true}) {
                    ChannelSpacer x = loud(0, first ? 20 : 20 + gap, first ? 20 + gap : 20);
                    x.setSpacing(5, spacing);
                    Check.due("16: " + gap + " apart with the spacing " + spacing, x.isClean(), gap >= spacing);
                }
            }
        }
        ChannelSpacer last = loud(0, 0, 63, 30, 21);
        last.setSpacing(0, 10);
        Check.due("16: the last two are too close", last.isClean(), false);
        last.setSpacing(0, 9);
        Check.due("16: the last two are just so far", last.isClean(), true);
        ChannelSpacer one = loud(7, 63);
        one.setSpacing(5, 10);
        Check.due("16: one carrier", one.isClean(), true);
    }

    private static void cleanAtTheGuard() {
        for (int guard = 0; guard <= 5; guard++) {
            ChannelSpacer x = loud(1, 20, 25);
            x.setSpacing(guard, 5);
            Check.due("16: products five away with the guard " + guard, x.isClean(), guard < 5);
            ChannelSpacer fifth = loud(4, 20, 22);
            fifth.setSpacing(guard, 2);
            Check.due("16: products four away with the guard " + guard, fifth.isClean(), guard < 4);
        }
    }

    private static void cleanAtTheLevel() {
        ChannelSpacer x = deskOf(10, 5, 20, 6, 30, 7);
        // Of the kind 0, 2 * 20 - 30 hits 10 with 2 * 6 + 7 and 2 * 20 - 10 hits 30 with 2 * 6 + 5, less the loss;
        // of the kind 1, 10 + 30 - 20 hits 20 with 5 + 7 + 6.
        int[][] due = {{1, 19, 0}, {1, 20, 1}, {2, 18, 0}, {2, 19, 1}};
        for (int[] row : due) {
            x.setProducts(row[0], row[1], 0);
            Check.due("16: kind set " + row[0] + " with the loss " + row[1], x.isClean(), row[2] == 1);
        }
    }

    /** 10 + 22 - 12 hits 20, and so the other way round, but of the kinds 0 and 2 nothing; 3 * 20 - 2 * 24 hits 12. */
    private static void cleanByEachKind() {
        for (int kinds = 0; kinds <= 7; kinds++) {
            boolean hasKind1 = kinds == 2 || kinds == 3 || kinds >= 6;
            Check.due("16: by the kind 1, kind set " + kinds, loud(kinds, 10, 12, 20, 22).isClean(), !hasKind1);
            Check.due("14: by the kind 1, kind set " + kinds, loud(kinds, 10, 12, 20, 22).hits(), hasKind1 ? 4 : 0);
            Check.due("16: by the kind 2, kind set " + kinds, loud(kinds, 20, 24, 12).isClean(), kinds < 4);
            Check.due("14: by the kind 2, kind set " + kinds, loud(kinds, 20, 24, 12).hits(), kinds < 4 ? 0 : 1);
        }
    }

    /** Carriers of which one product alone, with the level 0, hits, and hits the last of them alone. */
    private static void cleanInAnyOrder() {
        onlyHit(new int[] {1, 179, 0}, new int[] {20, 60, 30, 59, 10, 0});
        onlyHit(new int[] {2, 180, 0}, new int[] {10, 60, 22, 60, 12, 60, 20, 0});
        onlyHit(new int[] {4, 0, 298}, new int[] {20, 60, 24, 59, 12, 0});
        onlyHit(new int[] {4, 0, 298}, new int[] {20, 60, 10, 59, 40, 0});
    }

    private static void onlyHit(int[] settings, int[] pairs) {
        int[] order = new int[pairs.length / 2];
        onlyHit(settings, pairs, order, 0);
    }

    /** Tries all orders: the numbers before the place at are chosen. */
    private static void onlyHit(int[] settings, int[] pairs, int[] order, int at) {
        for (int next = 0; next < order.length && at < order.length; next++) {
            boolean isFree = true;
            for (int i = 0; i < at; i++) {
                isFree &= order[i] != next;
            }
            if (isFree) {
                order[at] = next;
                onlyHit(settings, pairs, order, at + 1);
            }
        }
        if (at == order.length) {
            hitInOrder(settings, pairs, order);
        }
    }

    private static void hitInOrder(int[] settings, int[] pairs, int[] order) {
        ChannelSpacer x = new ChannelSpacer();
        x.setProducts(settings[0], settings[1], settings[2]);
        for (int i = 0; i + 1 < order.length; i++) {
            x.addCarrier(pairs[2 * order[i]], pairs[2 * order[i] + 1]);
        }
        int channel = pairs[2 * order[order.length - 1]];
        int level = pairs[2 * order[order.length - 1] + 1];
        String what = " of the kind set " + settings[0] + " with the last one on " + channel;
        Check.due("22: not open" + what, x.openings(level) >> channel & 1, 0);
        x.addCarrier(channel, level);
        Check.due("14: one hit" + what, x.hits(), 1);
        Check.due("16: not clean" + what, x.isClean(), false);
        Check.due("18: any one is enough" + what, x.removal(), 1);
        x.setProducts(settings[0], settings[1] + 1, settings[2] + 1);
        Check.due("11: no strong product" + what, x.products(), 0);
        Check.due("16: clean with the level -1" + what, x.isClean(), true);
        x.removeCarrier(order.length - 1);
        Check.due("22: open with the level -1" + what, x.openings(level) >> channel & 1, 1);
    }

    // ---- 17

    private static void closestOfFewAndFar() {
        Check.due("17: none", new ChannelSpacer().closest(), ChannelSpacer.NONE);
        Check.due("17: one", deskOf(0, 0).closest(), ChannelSpacer.NONE);
        Check.due("17: two at the ends", deskOf(0, 0, 63, 0).closest(), 63);
        Check.due("17: two at the ends, the other way", deskOf(63, 0, 0, 0).closest(), 63);
        Check.due("17: neighbours", deskOf(62, 0, 63, 0).closest(), 1);
        Check.due("17: ten", ten().closest(), 1);
        ChannelSpacer x = deskOf(0, 0, 40, 0, 60, 0, 47, 0);
        Check.due("17: neither first nor next", x.closest(), 7);
        x.removeCarrier(3);
        Check.due("17: without it", x.closest(), 20);
        x.removeCarrier(2);
        x.removeCarrier(1);
        Check.due("17: only one again", x.closest(), ChannelSpacer.NONE);
    }

    // ---- 18

    private static void nothingToRemove() {
        Check.due("18: no carriers", new ChannelSpacer().removal(), 0);
        ChannelSpacer one = loud(7, 5);
        one.setSpacing(5, 10);
        Check.due("18: one carrier", one.removal(), 0);
        Check.due("18: a clean set", loud(3, 0, 1, 3).removal(), 0);
        ChannelSpacer ten = ten();
        ten.setProducts(0, 0, 0);
        Check.due("18: ten neighbours at the spacing 1", ten.removal(), 0);
    }

    private static void removalPrefersFew() {
        ChannelSpacer x = loud(0, 0, 3, 6, 9, 12, 15, 18, 21, 24, 13);
        x.setSpacing(0, 3);
        Check.due("18: the last of ten, though its bit is the greatest", x.removal(), 1 << 9);
        ChannelSpacer middle = loud(0, 30, 32, 31);
        middle.setSpacing(0, 2);
        Check.due("18: one great rather than two small", middle.removal(), 4);
        ChannelSpacer hit = deskOf(20, 60, 30, 60, 10, 0, 40, 0);
        hit.setProducts(1, 180, 0);
        Check.due("18: one that makes both rather than two that are hit", hit.removal(), 1);
    }

    private static void removalPrefersSmall() {
        ChannelSpacer two = loud(0, 5, 6);
        two.setSpacing(0, 2);
        Check.due("18: the first of two", two.removal(), 1);
        Check.due("18: any of three by hits", loud(3, 10, 20, 30).removal(), 1);
        ChannelSpacer later = loud(0, 40, 50, 5, 6);
        later.setSpacing(0, 2);
        Check.due("18: the first of the two that are close", later.removal(), 4);
        ChannelSpacer pairs = loud(0, 11, 20, 10, 21);
        pairs.setSpacing(0, 2);
        Check.due("18: 0 and 1 of the pairs 0, 2 and 1, 3", pairs.removal(), 3);
    }

    private static void removalOfMany() {
        ChannelSpacer x = ten();
        x.setSpacing(0, 10);
        Check.due("18: all but the last", x.removal(), 511);
        x.setProducts(0, 0, 0);
        x.setSpacing(0, 9);
        Check.due("18: the first and the last stay", x.removal(), 510);
        x.setSpacing(0, 5);
        Check.due("18: one of each half stays", x.removal(), 495);
        Check.due("18: none was removed", x.size(0), 10);
    }
}
