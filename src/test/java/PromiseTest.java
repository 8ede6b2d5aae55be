/** Each promise of the document with answers that were worked out by hand, its edges, and wrong inputs. */
public final class PromiseTest extends Desks {
    private PromiseTest() {
    }

    public static void main(String[] args) {
        newObject();
        addCarrier();
        moveCarrier();
        removeCarrier();
        shift();
        setProducts();
        setSpacing();
        sizeAndCarrier();
        channels();
        products();
        product();
        fallout();
        hits();
        isClean();
        closest();
        removal();
        leastSpanAndBestRuler();
        rulers();
        openings();
        putIn();
        addMixer();
        setMember();
        addTest();
        test();
        heard();
        diagnoses();
        fewestMixersFirst();
        bestTest();
        appendAndClear();
        parse();
        parsePositions();
        parseChanges();
        undo();
        undoOfTests();
        whatDropsTests();
        whatSaves();
        digest();
        Check.end();
    }

    // ---- carriers

    private static void newObject() {
        ChannelSpacer x = new ChannelSpacer();
        for (int what = 0; what <= 2; what++) {
            Check.due("1: size(" + what + ")", x.size(what), 0);
        }
        Check.due("1: channels()", x.channels(), 0);
        Check.due("1: clearText()", x.clearText(), 0);
        Check.due("1: initial kinds", x.setProducts(0, 0, 0), 3);
        Check.due("1: initial guard", x.setSpacing(0, 1), 0);
        Check.refused("1: undo()", new ChannelSpacer(), STATE, () -> new ChannelSpacer().undo());
        Check.due("1: digest()", new ChannelSpacer().digest(), hash(0, 3, 0, 100, 0, 1, 0, 0, 0, 0, 0, 1, 0, 0));
        Check.due("1: NONE", ChannelSpacer.NONE, -1);
    }

    private static void addCarrier() {
        ChannelSpacer x = new ChannelSpacer();
        Check.due("2: first", x.addCarrier(0, 60), 0);
        Check.due("2: second", x.addCarrier(63, 0), 1);
        Check.due("2: channel", x.carrier(1, false), 63);
        Check.due("2: level", x.carrier(0, true), 60);
        for (int channel : new int[] {-1, 64, LOWEST, HIGHEST, 0, 63}) {
            Check.refused("2: channel " + channel, x, ARGUMENT, () -> x.addCarrier(channel, 5));
        }
        for (int level : new int[] {-1, 61, LOWEST, HIGHEST}) {
            Check.refused("2: level " + level, x, ARGUMENT, () -> x.addCarrier(5, level));
        }
        ChannelSpacer full = ten();
        Check.due("2: the tenth", full.size(0), 10);
        Check.refused("2: an eleventh", full, STATE, () -> full.addCarrier(20, 5));
        Check.refused("2: an eleventh, channel wrong", full, ARGUMENT, () -> full.addCarrier(64, 5));
        Check.refused("2: an eleventh, channel taken", full, ARGUMENT, () -> full.addCarrier(3, 5));
        Check.refused("2: an eleventh, level wrong", full, ARGUMENT, () -> full.addCarrier(20, 61));
    }

    private static void moveCarrier() {
        ChannelSpacer x = three();
        Check.due("3: before", x.moveCarrier(1, 63, 60), 23);
        Check.due("3: channel", x.carrier(1, false), 63);
        Check.due("3: level", x.carrier(1, true), 60);
        Check.due("3: to its own channel", x.moveCarrier(1, 63, 1), 63);
        Check.due("3: another level", x.carrier(1, true), 1);
        Check.due("3: the others", x.channels(), bits(20, 31, 63));
        for (int carrier : new int[] {-1, 3, 10, LOWEST, HIGHEST}) {
            Check.refused("3: carrier " + carrier, x, INDEX, () -> x.moveCarrier(carrier, 64, 61));
        }
        for (int channel : new int[] {-1, 64, 20, 31, LOWEST, HIGHEST}) {
            Check.refused("3: channel " + channel, x, ARGUMENT, () -> x.moveCarrier(1, channel, 0));
        }
        for (int level : new int[] {-1, 61}) {
            Check.refused("3: level " + level, x, ARGUMENT, () -> x.moveCarrier(1, 63, level));
        }
    }

    private static void removeCarrier() {
        ChannelSpacer x = deskOf(10, 1, 20, 2, 30, 3, 40, 4);
        x.addMixer(15);
        x.addMixer(0b1010);
        x.addMixer(0b0100);
        x.addMixer(0b0010);
        Check.due("4: left", x.removeCarrier(1), 3);
        Check.due("4: behind it", x.carrier(1, false), 30);
        Check.due("4: last", x.carrier(2, true), 4);
        Check.due("4: before it", x.carrier(0, true), 1);
        Check.due("4: mixer of all", x.mixer(0), 7);
        Check.due("4: mixer of 1 and 3", x.mixer(1), 0b100);
        Check.due("4: mixer of 2", x.mixer(2), 0b010);
        Check.due("4: mixer of 1", x.mixer(3), 0);
        Check.due("4: mixers stay", x.size(1), 4);
        Check.due("4: channel is free", x.addCarrier(20, 0), 3);
        for (int carrier : new int[] {-1, 4, LOWEST, HIGHEST}) {
            Check.refused("4: carrier " + carrier, x, INDEX, () -> x.removeCarrier(carrier));
        }
        Check.due("4: the last one", x.removeCarrier(3), 3);
        Check.due("4: the first one", x.removeCarrier(0), 2);
        Check.due("4: mixer of all then", x.mixer(0), 3);
        x.removeCarrier(0);
        Check.due("4: the only one", x.removeCarrier(0), 0);
        Check.refused("4: no carrier", x, INDEX, () -> x.removeCarrier(0));
    }

    private static void shift() {
        ChannelSpacer x = deskOf(5, 1, 60, 2);
        Check.due("5: up", x.shift(3), 2);
        Check.due("5: channels up", x.channels(), bits(8, 63));
        Check.due("5: order stays", x.carrier(0, false), 8);
        Check.refused("5: above the band", x, STATE, () -> x.shift(1));
        Check.refused("5: below the band", x, STATE, () -> x.shift(-9));
        Check.refused("5: far below the band", x, STATE, () -> x.shift(-63));
        Check.due("5: down", x.shift(-8), 2);
        Check.due("5: channels down", x.channels(), bits(0, 55));
        Check.due("5: level stays", x.carrier(1, true), 2);
        for (int by : new int[] {-64, 64, LOWEST, HIGHEST}) {
            Check.refused("5: by " + by, x, ARGUMENT, () -> x.shift(by));
        }
        ChannelSpacer none = new ChannelSpacer();
        Check.due("5: without carriers up", none.shift(63), 0);
        Check.due("5: without carriers down", none.shift(-63), 0);
        Check.refused("5: without carriers, too far", none, ARGUMENT, () -> none.shift(64));
        ChannelSpacer one = deskOf(0, 7);
        Check.due("5: from end to end", one.shift(63), 1);
        Check.due("5: and there", one.carrier(0, false), 63);
        Check.due("5: and back", one.shift(-63), 1);
        Check.due("5: nowhere", one.shift(0), 1);
    }

    private static void setProducts() {
        ChannelSpacer x = three();
        Check.due("6: before", x.setProducts(7, 300, 300), 3);
        Check.due("6: all weak", x.products(), 0);
        Check.due("6: before that", x.setProducts(0, 0, 0), 7);
        Check.due("6: all off", x.products(), 0);
        Check.due("6: off", x.setProducts(4, 0, 0), 0);
        Check.due("6: kind 2 only", x.products(), 5);
        for (int kinds : new int[] {-1, 8, LOWEST, HIGHEST}) {
            Check.refused("6: kinds " + kinds, x, ARGUMENT, () -> x.setProducts(kinds, 0, 0));
        }
        for (int loss : new int[] {-1, 301, LOWEST, HIGHEST}) {
            Check.refused("6: loss3 " + loss, x, ARGUMENT, () -> x.setProducts(1, loss, 0));
            Check.refused("6: loss5 " + loss, x, ARGUMENT, () -> x.setProducts(1, 0, loss));
        }
    }

    private static void setSpacing() {
        ChannelSpacer x = three();
        Check.due("7: before", x.setSpacing(5, 10), 0);
        Check.due("7: before that", x.setSpacing(0, 1), 5);
        for (int guard : new int[] {-1, 6, LOWEST, HIGHEST}) {
            Check.refused("7: guard " + guard, x, ARGUMENT, () -> x.setSpacing(guard, 1));
        }
        for (int spacing : new int[] {0, -1, 11, LOWEST, HIGHEST}) {
            Check.refused("7: spacing " + spacing, x, ARGUMENT, () -> x.setSpacing(0, spacing));
        }
    }

    private static void sizeAndCarrier() {
        ChannelSpacer x = tested();
        Check.due("8: carriers", x.size(0), 2);
        Check.due("8: mixers", x.size(1), 1);
        Check.due("8: tests", x.size(2), 2);
        for (int what : new int[] {-1, 3, LOWEST, HIGHEST}) {
            Check.refused("8: what " + what, x, ARGUMENT, () -> x.size(what));
        }
        ChannelSpacer y = deskOf(33, 44);
        Check.due("9: channel", y.carrier(0, false), 33);
        Check.due("9: level", y.carrier(0, true), 44);
        for (int carrier : new int[] {-1, 1, LOWEST, HIGHEST}) {
            Check.refused("9: carrier " + carrier, y, INDEX, () -> y.carrier(carrier, true));
            Check.refused("9: carrier " + carrier, y, INDEX, () -> y.carrier(carrier, false));
        }
    }

    private static void channels() {
        Check.due("10: none", new ChannelSpacer().channels(), 0);
        Check.due("10: the ends", deskOf(63, 0, 0, 0, 31, 0, 32, 0).channels(), bits(0, 31, 32, 63));
    }

    // ---- products and hits

    private static void products() {
        Check.due("11: none", new ChannelSpacer().products(), 0);
        Check.due("11: of one carrier", deskOf(5, 60).products(), 0);
        ChannelSpacer x = three();
        Check.due("11: at first", x.products(), 9);
        x.setProducts(1, 0, 100);
        Check.due("11: kind 0", x.products(), 6);
        x.setProducts(2, 0, 100);
        Check.due("11: kind 1", x.products(), 3);
        x.setProducts(4, 0, 100);
        Check.due("11: kind 2", x.products(), 2);
        x.setProducts(4, 300, 40);
        Check.due("11: kind 2 with the level 0", x.products(), 5);
        x.setProducts(4, 300, 41);
        Check.due("11: kind 2 with the level -1", x.products(), 4);
        x.setProducts(4, 300, 60);
        Check.due("11: kind 2 with two levels 0", x.products(), 4);
        x.setProducts(4, 300, 61);
        Check.due("11: kind 2 below that", x.products(), 2);
        x.setProducts(3, 50, 300);
        Check.due("11: levels 0", x.products(), 6);
        x.setProducts(3, 51, 300);
        Check.due("11: levels -1", x.products(), 3);
        // 2 * 21 - 0, 2 * 21 - 42, 2 * 42 - 21, 0 + 42 - 21 and 21 + 42 - 0; then 2 * 21 - 0 and 0 + 43 - 21.
        ChannelSpacer edge = deskOf(0, 60, 21, 60, 42, 60);
        Check.due("11: the band ends at 0 and 63", edge.products(), 5);
        edge.moveCarrier(2, 43, 60);
        Check.due("11: -1 and 64 are out of the band", edge.products(), 2);
    }

    private static void product() {
        ChannelSpacer x = three();
        x.setProducts(7, 0, 100);
        int[][] due = {
            {0, 0, 1, -1, 17, 80}, {0, 0, 2, -1, 9, 60}, {0, 1, 0, -1, 26, 70}, {0, 1, 2, -1, 15, 40},
            {0, 2, 0, -1, 42, 30}, {0, 2, 1, -1, 39, 20},
            {1, 0, 1, 2, 12, 50}, {1, 0, 2, 1, 28, 50}, {1, 1, 2, 0, 34, 50},
            {2, 0, 1, -1, 14, 30}, {2, 1, 0, -1, 29, 20},
        };
        for (int index = 0; index < due.length; index++) {
            for (int what = 0; what < 6; what++) {
                Check.due("12: product(" + index + ", " + what + ")", x.product(index, what), due[index][what]);
            }
        }
        for (int index : new int[] {-1, 11, LOWEST, HIGHEST}) {
            Check.refused("12: index " + index, x, INDEX, () -> x.product(index, 0));
            Check.refused("12: index " + index + ", what wrong", x, INDEX, () -> x.product(index, 6));
        }
        for (int what : new int[] {-1, 6, LOWEST, HIGHEST}) {
            Check.refused("12: what " + what, x, ARGUMENT, () -> x.product(10, what));
        }
        x.moveCarrier(0, 21, 30);
        Check.due("12: behind a move", x.product(0, 4), 19);
        ChannelSpacer many = new ChannelSpacer();
        for (int i = 0; i < 10; i++) {
            many.addCarrier(28 + i, 60);
        }
        many.setProducts(7, 0, 0);
        Check.due("12: the most there can be", many.products(), 540);
        Check.due("12: the last one's kind", many.product(539, 0), 2);
        Check.due("12: the last one's a", many.product(539, 1), 9);
        Check.due("12: the last one's channel", many.product(539, 4), 39);
        Check.refused("12: behind the last one", many, INDEX, () -> many.product(540, 0));
    }

    private static void fallout() {
        ChannelSpacer x = three();
        Check.due("13: none", x.fallout(0), 0);
        Check.due("13: one", x.fallout(4), 0);
        Check.due("13: 0 and 1", x.fallout(3), bits(17, 26));
        Check.due("13: 0 and 2", x.fallout(5), bits(9, 42));
        Check.due("13: 1 and 2", x.fallout(6), bits(15, 39));
        Check.due("13: all", x.fallout(7), bits(17, 9, 26, 15, 42, 39, 12, 28, 34));
        x.setProducts(4, 0, 40);
        Check.due("13: kind 2", x.fallout(7), bits(14, 29, 7, 53, 47));
        Check.due("13: kind 2 of 1 and 2", x.fallout(6), bits(7, 47));
        Check.due("13: kind 2 of 0 and 2", x.fallout(5), bits(53));
        for (int set : new int[] {-1, 8, 15, LOWEST, HIGHEST}) {
            Check.refused("13: set " + set, x, ARGUMENT, () -> x.fallout(set));
        }
        ChannelSpacer none = new ChannelSpacer();
        Check.due("13: without carriers", none.fallout(0), 0);
        Check.refused("13: without carriers", none, ARGUMENT, () -> none.fallout(1));
        Check.due("13: the ends of the band", deskOf(21, 60, 42, 60).fallout(3), bits(0, 63));
        ChannelSpacer full = ten();
        Check.refused("13: an eleventh", full, ARGUMENT, () -> full.fallout(1024));
    }

    private static void hits() {
        ChannelSpacer x = three();
        int[][] due = {{0, 0, 0, 0, 0}, {2, 0, 0, 0, 0}, {3, 4, 1, 1, 2}, {5, 7, 2, 2, 3}};
        for (int[] row : due) {
            x.setSpacing(row[0], 1);
            Check.due("14: hits() with the guard " + row[0], x.hits(), row[1]);
            for (int carrier = 0; carrier < 3; carrier++) {
                Check.due("15: hitsOn(" + carrier + ") with the guard " + row[0], x.hitsOn(carrier), row[2 + carrier]);
            }
        }
        // 10 and 30 are hit by the kind 0, and 20 by 10 + 30 - 20, in which it takes part.
        ChannelSpacer even = deskOf(10, 0, 20, 0, 30, 0);
        Check.due("14: hits() of three at equal distances", even.hits(), 3);
        Check.due("15: hitsOn(1)", even.hitsOn(1), 1);
        even.setProducts(1, 0, 0);
        Check.due("14: kind 0 only", even.hits(), 2);
        Check.due("15: hitsOn(1) without the kind 1", even.hitsOn(1), 0);
        even.setProducts(3, 1, 0);
        Check.due("14: all weak", even.hits(), 0);
        // 2 * 1 - 2 = 0 hits; 2 * 0 - 1 is out of the band though it is next to 0.
        ChannelSpacer low = deskOf(0, 60, 1, 60);
        low.setProducts(1, 0, 0);
        low.setSpacing(1, 1);
        Check.due("14: out of the band does not hit", low.hits(), 1);
        Check.due("15: out of the band does not hit", low.hitsOn(0), 0);
        for (int carrier : new int[] {-1, 3, LOWEST, HIGHEST}) {
            Check.refused("15: carrier " + carrier, x, INDEX, () -> x.hitsOn(carrier));
        }
        Check.due("14: none", new ChannelSpacer().hits(), 0);
    }

    private static void isClean() {
        Check.due("16: none", new ChannelSpacer().isClean(), true);
        Check.due("16: one", deskOf(7, 60).isClean(), true);
        ChannelSpacer x = three();
        Check.due("16: three", x.isClean(), true);
        x.setSpacing(2, 3);
        Check.due("16: at the spacing", x.isClean(), true);
        x.setSpacing(2, 4);
        Check.due("16: below the spacing", x.isClean(), false);
        x.setSpacing(3, 1);
        Check.due("16: hits", x.isClean(), false);
        x.setProducts(7, 71, 300);
        Check.due("16: with the strongest product only, which hits", x.isClean(), false);
        x.setProducts(7, 81, 300);
        Check.due("16: without strong products", x.isClean(), true);
    }

    private static void closest() {
        Check.due("17: none", new ChannelSpacer().closest(), -1);
        Check.due("17: one", deskOf(7, 60).closest(), -1);
        Check.due("17: two", deskOf(63, 0, 0, 0).closest(), 63);
        Check.due("17: three", three().closest(), 3);
        Check.due("17: last two", deskOf(1, 0, 50, 0, 49, 0).closest(), 1);
    }

    private static void removal() {
        Check.due("18: none", new ChannelSpacer().removal(), 0);
        Check.due("18: clean", three().removal(), 0);
        Check.due("18: any one", deskOf(10, 0, 20, 0, 30, 0).removal(), 1);
        ChannelSpacer x = three();
        x.setSpacing(0, 4);
        Check.due("18: one of two that are close", x.removal(), 1);
        x.setSpacing(0, 9);
        Check.due("18: the one between", x.removal(), 2);
        ChannelSpacer middleLast = deskOf(30, 60, 32, 60, 31, 60);
        middleLast.setProducts(0, 0, 0);
        middleLast.setSpacing(0, 2);
        Check.due("18: fewest before smallest", middleLast.removal(), 4);
        ChannelSpacer pairs = deskOf(10, 0, 11, 0, 20, 0, 21, 0);
        pairs.setProducts(0, 0, 0);
        pairs.setSpacing(0, 2);
        Check.due("18: one of each pair", pairs.removal(), 5);
        ChannelSpacer all = ten();
        all.setSpacing(0, 10);
        Check.due("18: all but one", all.removal(), 511);
        ChannelSpacer noProducts = ten();
        noProducts.setProducts(0, 0, 0);
        Check.due("18: ten clean ones", noProducts.removal(), 0);
    }

    // ---- spans

    private static void leastSpanAndBestRuler() {
        ChannelSpacer x = three();
        int[] golomb = {0, 0, 1, 3, 6, 11, 17};
        long[] marks = {0, bits(0), bits(0, 1), bits(0, 1, 3), bits(0, 1, 4, 6), bits(0, 1, 4, 9, 11),
            bits(0, 1, 4, 10, 12, 17)};
        for (int n = 1; n <= 6; n++) {
            Check.due("19: leastSpan(" + n + ")", x.leastSpan(n), golomb[n]);
            Check.due("20: bestRuler(" + n + ")", x.bestRuler(n), marks[n]);
        }
        x.setProducts(3, 180, 300);
        Check.due("19: the level 0 is strong", x.leastSpan(6), 17);
        x.setProducts(3, 181, 300);
        Check.due("19: the level -1 is not", x.leastSpan(6), 5);
        Check.due("20: the level -1 is not", x.bestRuler(6), bits(0, 1, 2, 3, 4, 5));
        x.setProducts(7, 181, 300);
        Check.due("19: of the kind 2 all are strong", x.leastSpan(6), 9);
        Check.due("20: of the kind 2 all are strong", x.bestRuler(6), bits(0, 1, 2, 5, 8, 9));
        x.setProducts(0, 0, 0);
        x.setSpacing(0, 8);
        Check.due("19: the span 40", x.leastSpan(6), 40);
        Check.due("20: the span 40", x.bestRuler(6), bits(0, 8, 16, 24, 32, 40));
        x.setSpacing(0, 9);
        Check.due("19: a span above 40", x.leastSpan(6), -1);
        Check.due("20: a span above 40", x.bestRuler(6), 0);
        Check.due("19: one mark", x.leastSpan(1), 0);
        Check.due("20: one mark", x.bestRuler(1), 1);
        x.setProducts(1, 0, 0);
        x.setSpacing(5, 1);
        Check.due("19: a product that hits one that takes part", x.leastSpan(2), 6);
        x.setProducts(4, 0, 0);
        Check.due("19: one of the kind 2", x.leastSpan(2), 3);
        for (int n : new int[] {0, 7, -1, LOWEST, HIGHEST}) {
            Check.refused("19: marks " + n, x, ARGUMENT, () -> x.leastSpan(n));
            Check.refused("20: marks " + n, x, ARGUMENT, () -> x.bestRuler(n));
        }
    }

    private static void rulers() {
        ChannelSpacer x = three();
        Check.due("21: one mark, span 0", x.rulers(1, 0), 1);
        Check.due("21: one mark, span 1", x.rulers(1, 1), 0);
        Check.due("21: two marks, span 0", x.rulers(2, 0), 0);
        Check.due("21: two marks, span 40", x.rulers(2, 40), 1);
        Check.due("21: three marks, span 3", x.rulers(3, 3), 2);
        Check.due("21: three marks, span 4", x.rulers(3, 4), 2);
        Check.due("21: three marks, span 40", x.rulers(3, 40), 38);
        Check.due("21: four marks, span 6", x.rulers(4, 6), 2);
        Check.due("21: five marks, span 10", x.rulers(5, 10), 0);
        Check.due("21: five marks, span 11", x.rulers(5, 11), 4);
        x.setProducts(0, 0, 0);
        Check.due("21: all sets", x.rulers(5, 40), 9139);
        Check.due("21: no gap", x.rulers(5, 4), 1);
        x.setSpacing(5, 10);
        Check.due("21: the spacing 10, span 40", x.rulers(5, 40), 1);
        Check.due("21: the spacing 10, span 39", x.rulers(5, 39), 0);
        Check.due("21: the spacing 10, two marks", x.rulers(2, 10), 1);
        Check.due("21: the spacing 10, two marks, span 9", x.rulers(2, 9), 0);
        for (int n : new int[] {0, 6, -1, LOWEST, HIGHEST}) {
            Check.refused("21: marks " + n, x, ARGUMENT, () -> x.rulers(n, 40));
        }
        for (int span : new int[] {-1, 41, LOWEST, HIGHEST}) {
            Check.refused("21: span " + span, x, ARGUMENT, () -> x.rulers(5, span));
        }
    }

    private static void openings() {
        Check.due("22: without carriers", new ChannelSpacer().openings(60), -1);
        ChannelSpacer one = deskOf(10, 60);
        one.setProducts(0, 0, 0);
        one.setSpacing(0, 3);
        Check.due("22: the spacing", one.openings(0), ~bits(8, 9, 10, 11, 12));
        ChannelSpacer guarded = deskOf(30, 60);
        guarded.setSpacing(1, 1);
        Check.due("22: the guard", guarded.openings(60), ~bits(29, 30, 31));
        Check.due("22: two", deskOf(20, 60, 23, 60).openings(60), ~bits(17, 20, 23, 26));
        ChannelSpacer even = deskOf(20, 60, 24, 60);
        even.setProducts(3, 150, 0);
        Check.due("22: a strong one", even.openings(60), ~bits(16, 20, 22, 24, 28));
        Check.due("22: a weak one", even.openings(0), ~bits(16, 20, 24, 28));
        Check.due("22: not clean already", deskOf(10, 0, 20, 0, 30, 0).openings(0), 0);
        ChannelSpacer full = ten();
        full.setProducts(0, 0, 0);
        Check.due("22: ten carriers", full.openings(60), ~bits(0, 1, 2, 3, 4, 5, 6, 7, 8, 9));
        for (int level : new int[] {-1, 61, LOWEST, HIGHEST}) {
            Check.refused("22: level " + level, full, ARGUMENT, () -> full.openings(level));
        }
        Check.due("22: nothing was put in", full.size(0), 10);
    }

    private static void putIn() {
        ChannelSpacer x = new ChannelSpacer();
        int[] channels = {0, 1, 3, 7, 12, 20};
        for (int i = 0; i < channels.length; i++) {
            Check.due("23: channel of the carrier " + i, x.putIn(60), channels[i]);
            Check.due("23: its number", x.carrier(i, false), channels[i]);
            Check.due("23: its level", x.carrier(i, true), 60);
        }
        Check.due("23: undoable", x.undo(), 3);
        Check.due("23: undone", x.size(0), 5);
        for (int level : new int[] {-1, 61, LOWEST, HIGHEST}) {
            Check.refused("23: level " + level, x, ARGUMENT, () -> x.putIn(level));
        }
        ChannelSpacer unclean = deskOf(10, 0, 20, 0, 30, 0);
        unclean.addTest(1, 2, false);
        long before = unclean.digest();
        Check.due("23: none", unclean.putIn(0), -1);
        Check.due("23: nothing changed", unclean.digest(), before);
        Check.due("23: nothing saved, the tests are undone", unclean.undo(), 3);
        Check.due("23: the tests are undone", unclean.size(2), 0);
        ChannelSpacer full = ten();
        Check.refused("23: ten carriers", full, STATE, () -> full.putIn(0));
        Check.refused("23: ten carriers, level wrong", full, ARGUMENT, () -> full.putIn(61));
        full.setProducts(0, 0, 0);
        Check.refused("23: ten carriers with openings", full, STATE, () -> full.putIn(0));
    }

    // ---- mixers and tests

    private static void addMixer() {
        ChannelSpacer x = three();
        int[] sets = {0, 7, 5, 7, 1};
        for (int i = 0; i < 5; i++) {
            Check.due("24: number", x.addMixer(sets[i]), i);
        }
        for (int i = 0; i < 5; i++) {
            Check.due("26: carriers of " + i, x.mixer(i), sets[i]);
        }
        Check.refused("24: a sixth", x, STATE, () -> x.addMixer(1));
        Check.refused("24: a sixth with a wrong set", x, ARGUMENT, () -> x.addMixer(8));
        ChannelSpacer y = three();
        for (int set : new int[] {-1, 8, LOWEST, HIGHEST}) {
            Check.refused("24: set " + set, y, ARGUMENT, () -> y.addMixer(set));
        }
        for (int mixer : new int[] {-1, 5, LOWEST, HIGHEST}) {
            Check.refused("26: mixer " + mixer, x, INDEX, () -> x.mixer(mixer));
        }
        Check.refused("26: no mixers", y, INDEX, () -> y.mixer(0));
        ChannelSpacer full = ten();
        full.addMixer(1023);
        Check.due("24: all ten", full.mixer(0), 1023);
    }

    private static void setMember() {
        ChannelSpacer x = three();
        x.addMixer(5);
        x.addMixer(0);
        Check.due("25: in", x.setMember(0, 1, true), 7);
        Check.due("25: in again", x.setMember(0, 1, true), 7);
        Check.due("25: out", x.setMember(0, 2, false), 3);
        Check.due("25: out again", x.setMember(0, 2, false), 3);
        Check.due("25: it stays so", x.mixer(0), 3);
        Check.due("25: the other", x.mixer(1), 0);
        for (int wrong : new int[] {-1, 2, LOWEST, HIGHEST}) {
            Check.refused("25: mixer " + wrong, x, INDEX, () -> x.setMember(wrong, 0, true));
        }
        for (int wrong : new int[] {-1, 3, LOWEST, HIGHEST}) {
            Check.refused("25: carrier " + wrong, x, INDEX, () -> x.setMember(0, wrong, true));
        }
    }

    private static void addTest() {
        ChannelSpacer x = deskOf(10, 60, 13, 60);
        x.addMixer(3);
        x.addMixer(1);
        Check.due("27: heard", x.addTest(3, 7, true), 2);
        Check.due("27: not heard of one carrier", x.addTest(1, 7, false), 2);
        Check.due("27: not heard", x.addTest(3, 16, false), 0);
        for (int set : new int[] {-1, 4, LOWEST, HIGHEST}) {
            Check.refused("27: set " + set, x, ARGUMENT, () -> x.addTest(set, 0, true));
        }
        for (int channel : new int[] {-1, 64, LOWEST, HIGHEST}) {
            Check.refused("27: channel " + channel, x, ARGUMENT, () -> x.addTest(0, channel, true));
        }
        for (int i = 3; i < 16; i++) {
            Check.due("27: test " + i, x.addTest(0, 63, false), 0);
        }
        Check.refused("27: a seventeenth", x, STATE, () -> x.addTest(0, 0, true));
        Check.refused("27: a seventeenth with a wrong channel", x, ARGUMENT, () -> x.addTest(0, 64, true));
        Check.refused("27: a seventeenth with a wrong set", x, ARGUMENT, () -> x.addTest(4, 0, true));
        Check.due("27: sixteen are kept", x.size(2), 16);
        Check.due("27: undoable", x.undo(), 3);
        Check.due("27: fifteen are left", x.size(2), 15);
    }

    private static void test() {
        ChannelSpacer x = tested();
        int[][] due = {{3, 7, 1}, {1, 7, 0}};
        for (int test = 0; test < 2; test++) {
            for (int what = 0; what < 3; what++) {
                Check.due("28: test(" + test + ", " + what + ")", x.test(test, what), due[test][what]);
            }
        }
        for (int test : new int[] {-1, 2, 16, LOWEST, HIGHEST}) {
            Check.refused("28: test " + test, x, INDEX, () -> x.test(test, 0));
            Check.refused("28: test " + test + ", what wrong", x, INDEX, () -> x.test(test, 3));
        }
        for (int what : new int[] {-1, 3, LOWEST, HIGHEST}) {
            Check.refused("28: what " + what, x, ARGUMENT, () -> x.test(0, what));
        }
    }

    private static void heard() {
        ChannelSpacer x = deskOf(10, 60, 13, 60, 20, 60);
        x.addMixer(3);
        x.addMixer(6);
        x.addMixer(7);
        Check.due("29: 2 * 10 - 13", x.heard(7, 7), 0b101);
        Check.due("29: without 13", x.heard(5, 7), 0);
        Check.due("29: 10 + 13 - 20", x.heard(7, 3), 0b100);
        Check.due("29: without 20", x.heard(3, 3), 0);
        Check.due("29: 2 * 20 - 13", x.heard(6, 27), 0b110);
        Check.due("29: the guard does not matter", x.heard(7, 8), 0);
        x.setSpacing(5, 1);
        Check.due("29: not even the greatest", x.heard(7, 8), 0);
        Check.due("29: nothing active", x.heard(0, 7), 0);
        x.setProducts(3, 181, 0);
        Check.due("29: weak", x.heard(7, 7), 0);
        x.setProducts(4, 0, 300);
        Check.due("29: 3 * 10 - 2 * 13", x.heard(7, 4), 0b101);
        for (int set : new int[] {-1, 8, LOWEST, HIGHEST}) {
            Check.refused("29: set " + set, x, ARGUMENT, () -> x.heard(set, 0));
        }
        for (int channel : new int[] {-1, 64, LOWEST, HIGHEST}) {
            Check.refused("29: channel " + channel, x, ARGUMENT, () -> x.heard(0, channel));
        }
        Check.due("29: without mixers", three().heard(7, 17), 0);
        Check.due("29: without carriers", new ChannelSpacer().heard(0, 17), 0);
    }

    private static void diagnoses() {
        ChannelSpacer none = new ChannelSpacer();
        Check.due("30: without mixers", none.diagnoses(), 1);
        Check.due("31: without mixers", none.diagnosis(), 0);
        Check.due("32: without mixers", none.certain(true), 0);
        none.addTest(0, 0, true);
        Check.due("30: a sound without mixers", none.diagnoses(), 0);
        Check.due("31: a sound without mixers", none.diagnosis(), -1);
        Check.due("32: a sound without mixers", none.certain(true), 0);
        ChannelSpacer x = deskOf(10, 60, 13, 60);
        x.addMixer(3);
        x.addMixer(3);
        x.addMixer(1);
        Check.due("30: without tests", x.diagnoses(), 8);
        Check.due("31: without tests", x.diagnosis(), 0);
        Check.due("32: bad in all without tests", x.certain(true), 0);
        Check.due("32: bad in none without tests", x.certain(false), 0);
        x.addTest(3, 7, true);
        Check.due("30: one of two", x.diagnoses(), 6);
        Check.due("31: one of two", x.diagnosis(), 1);
        Check.due("32: bad in all, one of two", x.certain(true), 0);
        Check.due("32: bad in none, one of two", x.certain(false), 0);
        x.undo();
        x.addTest(3, 16, false);
        Check.due("30: none of two", x.diagnoses(), 2);
        Check.due("32: bad in none", x.certain(false), 3);
        Check.due("32: bad in all", x.certain(true), 0);
        x.addTest(3, 7, true);
        Check.due("30: a contradiction", x.diagnoses(), 0);
        Check.due("31: a contradiction", x.diagnosis(), -1);
        Check.due("32: bad in all of none", x.certain(true), 7);
        Check.due("32: bad in none of none", x.certain(false), 7);
        x.undo();
        x.removeCarrier(0);
        Check.due("30: the tests are dropped", x.diagnoses(), 8);
        ChannelSpacer five = three();
        for (int i = 0; i < 5; i++) {
            five.addMixer(7);
        }
        Check.due("30: all sets", five.diagnoses(), 32);
    }

    private static void fewestMixersFirst() {
        ChannelSpacer x = deskOf(10, 60, 13, 60, 20, 60);
        x.addMixer(3);
        x.addMixer(6);
        x.addMixer(7);
        x.addTest(7, 7, true);
        Check.due("31: the smaller one", x.diagnosis(), 1);
        x.addTest(7, 6, true);
        Check.due("31: the one with fewer mixers", x.diagnosis(), 4);
        Check.due("30: those with 2, or with 0 and 1", x.diagnoses(), 5);
        x.addTest(7, 3, false);
        Check.due("31: both are bad", x.diagnosis(), 3);
        Check.due("32: both are bad", x.certain(true), 3);
        Check.due("32: the third is not", x.certain(false), 4);
    }

    private static void bestTest() {
        ChannelSpacer x = deskOf(10, 60, 13, 60, 20, 60);
        Check.due("33: without mixers", x.bestTest(7), 0);
        x.addMixer(3);
        x.addMixer(6);
        x.addMixer(7);
        // 0 is heard of 2 * 10 - 20 by the mixer 2 alone, 3 as well; both numbers are 4.
        Check.due("33: the lowest channel", x.bestTest(7), 0);
        Check.due("33: 0 is not heard", x.bestTest(3), 7);
        Check.due("33: nothing is heard", x.bestTest(4), 0);
        x.addTest(7, 0, false);
        // Without the mixer 2: 6 tells of the mixer 1, before 7 tells of the mixer 0.
        Check.due("33: of the rest", x.bestTest(7), 6);
        x.addTest(7, 27, true);
        Check.due("33: then", x.bestTest(7), 7);
        x.addTest(7, 16, true);
        Check.due("33: one diagnosis", x.bestTest(7), 0);
        x.addTest(7, 63, true);
        Check.due("33: no diagnosis", x.bestTest(7), 0);
        for (int set : new int[] {-1, 8, LOWEST, HIGHEST}) {
            Check.refused("33: set " + set, x, ARGUMENT, () -> x.bestTest(set));
        }
    }

    // ---- text

    private static void appendAndClear() {
        ChannelSpacer x = new ChannelSpacer();
        for (int value : new int[] {-1, 128, LOWEST, HIGHEST}) {
            Check.refused("34: value " + value, x, ARGUMENT, () -> x.append(value));
        }
        for (int i = 1; i <= 120; i++) {
            Check.due("34: length", x.append(i % 2 == 0 ? 0 : 127), i);
        }
        Check.refused("34: full", x, STATE, () -> x.append(0));
        Check.refused("34: full, value wrong", x, ARGUMENT, () -> x.append(128));
        Check.due("35: length", x.clearText(), 120);
        Check.due("35: empty", x.clearText(), 0);
        Check.due("34: from the front", x.append(99), 1);
        Check.due("35: one", x.clearText(), 1);
    }

    private static void parse() {
        Check.due("36: no items", parsed(""), 0);
        ChannelSpacer x = new ChannelSpacer();
        String text = "c00,60;m0;c9,0;m01,0;c63,07;m2,1,0;";
        write(x, text);
        Check.due("36: items", x.parse(), 6);
        Check.due("36: carriers", x.size(0), 3);
        Check.due("36: channels", x.channels(), bits(0, 9, 63));
        Check.due("36: level of 0", x.carrier(0, true), 60);
        Check.due("36: level of 1", x.carrier(1, true), 0);
        Check.due("36: level of 2", x.carrier(2, true), 7);
        Check.due("36: mixers", x.size(1), 3);
        Check.due("36: mixer 0", x.mixer(0), 1);
        Check.due("36: mixer 1", x.mixer(1), 3);
        Check.due("36: mixer 2", x.mixer(2), 7);
        Check.due("36: the text stays", x.clearText(), text.length());
        StringBuilder all = new StringBuilder();
        for (int i = 0; i < 10; i++) {
            all.append("c").append(i).append(",1;");
        }
        all.append("m0,1,2,3,4,5,6,7,8,9;m9;m9;m9;m09;");
        Check.due("36: ten carriers, five mixers", parsed(all.toString()), 15);
        Check.due("36: an eleventh carrier", parsed(all + "c"), -10 - all.length());
        Check.due("36: a sixth mixer", parsed(all + "m"), -10 - all.length());
    }

    /** Each text with the position of its error. */
    private static void parsePositions() {
        Object[][] due = {
            {"x", 0}, {";", 0}, {"C1,1;", 0}, {"1", 0}, {"c", 1}, {"c;", 1}, {"c,", 1}, {"cc", 1}, {"c1", 2},
            {"c1;", 2}, {"c1,", 3}, {"c1,;", 3}, {"c1,1", 4}, {"c1,1,", 4}, {"c1,1c", 4}, {"c1,1;;", 5},
            {"c1,1; c2,2;", 5}, {" c1,1;", 0}, {"c63,60;c64", 8}, {"c64,1;", 1}, {"c64x", 1}, {"c64;", 1},
            {"c641", 3}, {"c123,1;", 3}, {"c99", 1}, {"c5,61;", 3}, {"c5,61", 3}, {"c5,61x", 3}, {"c5,611", 5},
            {"c5,601;", 5}, {"c5,001;", 5}, {"c005,1;", 3}, {"c5,1;c5", 6}, {"c5,1;c5,", 6}, {"c5,1;c5x", 6},
            {"c5,1;c05,1;", 6}, {"c5,1;c051", 8}, {"c5,1;c50,1;", -3}, {"c-1", 1}, {"c1,-1", 3}, {"c1/", 2}, {"c1:", 2},
            {"m", 1}, {"m;", 1}, {"m,", 1}, {"m0", 1}, {"m0;", 1}, {"c1,1;m1", 6}, {"c1,1;m1;", 6}, {"c1,1;m0", 7},
            {"c1,1;m0,", 8}, {"c1,1;m0,;", 8}, {"c1,1;m0,0", 8}, {"c1,1;m0,00;", 8}, {"c1,1;m00,0;", 9},
            {"c1,1;m000", 8}, {"c1,1;m10;", 6}, {"c1,1;m100", 8}, {"c1,1;m0x", 7}, {"c1,1;m1x", 6}, {"m0;c1,1;", 1},
            {"c1,1;c2,2;m0,1,2;", 15}, {"c1,1;c2,2;m0,1,0;", 15}, {"c1,1;m99", 6}, {"c1,1;m0m", 7},
        };
        for (Object[] row : due) {
            int position = (Integer) row[1];
            Check.due("36: " + row[0], parsed((String) row[0]), position < 0 ? 2 : -10 - position);
        }
        ChannelSpacer x = new ChannelSpacer();
        x.append(0);
        Check.due("36: the byte 0", x.parse(), -10);
    }

    private static void parseChanges() {
        ChannelSpacer x = three();
        x.setProducts(7, 1, 2);
        x.setSpacing(3, 4);
        x.addMixer(3);
        x.addTest(3, 7, false);
        write(x, "c1,1;x");
        long before = x.digest();
        Check.due("36: an error", x.parse(), -15);
        Check.due("36: nothing changed", x.digest(), before);
        write(x, "c1,1;");
        Check.due("36: no error", x.parse(), 1);
        Check.due("36: carriers of the text alone", x.size(0), 1);
        Check.due("36: mixers of the text alone", x.size(1), 0);
        Check.due("36: tests are dropped", x.size(2), 0);
        Check.due("36: what was saved", x.undo(), 3);
        Check.due("36: undone, the text stays", x.clearText(), 5);
        Check.due("36: undone", x.size(0), 3);
        Check.due("36: the tests again", x.size(2), 1);
        Check.due("36: an empty text", x.parse(), 0);
        Check.due("36: no carriers", x.size(0), 0);
        Check.due("36: the kinds stay", x.setProducts(0, 0, 0), 7);
        Check.due("36: the guard stays", x.setSpacing(0, 1), 3);
    }

    // ---- state

    private static void undo() {
        ChannelSpacer x = new ChannelSpacer();
        Check.refused("37: nothing saved", x, STATE, x::undo);
        for (int i = 0; i < 6; i++) {
            x.addCarrier(i * 7, i);
        }
        for (int left = 3; left >= 0; left--) {
            Check.due("37: left", x.undo(), left);
            Check.due("37: carriers then", x.size(0), 2 + left);
        }
        Check.refused("37: the oldest ones are dropped", x, STATE, x::undo);
        Check.due("37: channels stay", x.channels(), bits(0, 7));
        x.addCarrier(50, 5);
        Check.due("37: one", x.undo(), 0);
        ChannelSpacer y = tested();
        y.setSpacing(2, 3);
        y.setProducts(5, 6, 7);
        y.append(99);
        y.moveCarrier(0, 40, 4);
        y.undo();
        Check.due("37: channel", y.carrier(0, false), 10);
        Check.due("37: level", y.carrier(0, true), 60);
        Check.due("37: the text stays", y.clearText(), 1);
        Check.due("37: kinds", y.setProducts(0, 0, 0), 5);
        y.undo();
        y.undo();
        Check.due("37: guard", y.digest(), hash(0, 3, 0, 100, 2, 3, 2, 10, 60, 13, 60, 2, 0, 1, 3, 0, 2, 0, 2));
        Check.due("37: left", y.undo(), 1);
        Check.due("37: tests", y.size(2), 2);
        Check.due("37: what was heard", y.test(0, 2), 1);
        Check.due("37: diagnoses", y.diagnoses(), 1);
        Check.due("37: diagnosis", y.diagnosis(), 1);
    }

    /** The tests of a saved state stay what they were when others are kept behind them. */
    private static void undoOfTests() {
        ChannelSpacer x = tested();
        x.setMember(0, 0, true);
        x.addTest(2, 9, true);
        x.addTest(0, 8, true);
        Check.due("37: nothing fits the others", x.diagnoses(), 0);
        x.undo();
        x.undo();
        x.undo();
        int[][] due = {{3, 7, 1}, {1, 7, 0}};
        for (int test = 0; test < 2; test++) {
            for (int what = 0; what < 3; what++) {
                Check.due("37: test(" + test + ", " + what + ") again", x.test(test, what), due[test][what]);
            }
        }
        Check.due("37: diagnoses again", x.diagnoses(), 1);
        Check.due("37: diagnosis again", x.diagnosis(), 1);
        ChannelSpacer settings = three();
        settings.setSpacing(3, 2);
        settings.setProducts(3, 50, 60);
        settings.setSpacing(0, 1);
        settings.setProducts(0, 0, 0);
        settings.undo();
        settings.undo();
        Check.due("37: settings", settings.digest(),
                hash(0, 3, 50, 60, 3, 2, 3, 20, 30, 23, 20, 31, 0, 6, 4, 0, 0, 1, 0, 2));
    }

    private interface Change {
        void on(ChannelSpacer x);
    }

    private static void whatDropsTests() {
        Change[] changes = {
            x -> x.addCarrier(40, 1), x -> x.moveCarrier(0, 10, 60), x -> x.removeCarrier(1), x -> x.shift(0),
            x -> x.setProducts(3, 0, 100), x -> x.setSpacing(0, 1), x -> x.addMixer(0), x -> x.setMember(0, 0, true),
            x -> x.putIn(60), ChannelSpacer::parse,
        };
        for (int i = 0; i < changes.length; i++) {
            ChannelSpacer x = tested();
            changes[i].on(x);
            Check.due("dropped tests, change " + i, x.size(2), 0);
            Check.due("dropped tests, diagnoses, change " + i, x.diagnoses() > 1 || x.size(1) == 0, true);
            x.undo();
            Check.due("tests are back, change " + i, x.size(2), 2);
            Check.due("tests are back, diagnoses, change " + i, x.diagnoses(), 1);
        }
        Change[] withoutCarriers = {x -> x.shift(7), x -> x.removeCarrier(0), ChannelSpacer::parse};
        for (int i = 0; i < withoutCarriers.length; i++) {
            ChannelSpacer bare = deskOf();
            if (i == 1) {
                bare.addCarrier(5, 5);
            }
            bare.addTest(0, 1, true);
            withoutCarriers[i].on(bare);
            Check.due("dropped tests without mixers, change " + i, bare.size(2), 0);
        }
        ChannelSpacer x = tested();
        x.append(120);
        x.parse();
        x.clearText();
        Check.due("the text drops no tests", x.size(2), 2);
    }

    /** After a change the number of saved states is one more; after a question, or with the text, it is the same. */
    private static void whatSaves() {
        Change[] changes = {
            x -> x.addCarrier(40, 1), x -> x.moveCarrier(0, 10, 60), x -> x.removeCarrier(1), x -> x.shift(0),
            x -> x.setProducts(3, 0, 100), x -> x.setSpacing(0, 1), x -> x.addMixer(0), x -> x.setMember(0, 0, true),
            x -> x.putIn(60), ChannelSpacer::parse, x -> x.addTest(0, 0, false),
        };
        for (int i = 0; i < changes.length; i++) {
            ChannelSpacer x = deskOf(10, 60, 13, 60);
            x.addMixer(3);
            x.undo();
            x.undo();
            x.addCarrier(13, 60);
            x.addMixer(3);
            changes[i].on(x);
            Check.due("saved states after the change " + i, x.undo(), 3);
            Check.due("carriers before the change " + i, x.size(0), 2);
            Check.due("mixers before the change " + i, x.size(1), 1);
        }
        Change[] questions = {
            ChannelSpacer::removal, x -> x.openings(5), x -> x.bestRuler(4), x -> x.rulers(4, 20), x -> x.bestTest(3),
            x -> x.heard(3, 7), x -> x.certain(true), ChannelSpacer::diagnosis, ChannelSpacer::isClean,
            x -> x.fallout(3), x -> x.product(0, 4), ChannelSpacer::digest, x -> x.leastSpan(5),
            ChannelSpacer::closest, x -> x.hitsOn(1),
        };
        ChannelSpacer x = tested();
        long before = x.digest();
        for (int i = 0; i < questions.length; i++) {
            questions[i].on(x);
            Check.due("the digest behind the question " + i, x.digest(), before);
        }
        x.append('x');
        x.parse();
        x.clearText();
        Check.due("the digest behind a text that was cleared", x.digest(), before);
    }

    private static void digest() {
        ChannelSpacer x = tested();
        Check.due("38: tested", x.digest(),
                hash(0, 3, 0, 100, 0, 1, 2, 10, 60, 13, 60, 2, 0, 1, 3, 2, 3, 7, 1, 1, 7, 0, 1, 1, 4));
        x.addTest(3, 16, false);
        Check.due("38: no diagnosis", x.digest(),
                hash(0, 3, 0, 100, 0, 1, 2, 10, 60, 13, 60, 2, 0, 1, 3, 3, 3, 7, 1, 1, 7, 0, 3, 16, 0, 0, -1, 4));
        ChannelSpacer even = deskOf(10, 1, 20, 2, 30, 3);
        even.setProducts(7, 2, 20);
        even.append(65);
        even.append(65);
        // Kind 0: 0, 30, 10, 40 and 50 (2 * 10 - 30 is out of the band); kind 1: 0, 20, 40; kind 2: none is strong.
        Check.due("38: hits and text", even.digest(),
                hash(2, 7, 2, 20, 0, 1, 3, 10, 1, 20, 2, 30, 3, 8, 3, 0, 0, 1, 0, 4));
    }
}
