/** The boundary cases of the promises 1 to 10: carriers, the settings, and what tells of them. */
public final class CarrierEdgeTest extends Desks {
    private CarrierEdgeTest() {
    }

    public static void main(String[] args) {
        newDeskIsEmpty();
        desksAreApart();
        everyChannelCanBeTaken();
        everyLevelCanBeGiven();
        channelAndLevelEnd();
        channelIsTakenOnce();
        tenCarriersAreTheMost();
        argumentsComeBeforeRoom();
        freedChannels();
        moveToOwnChannel();
        moveToTheEnds();
        moveIsRefused();
        removeFirstMiddleLast();
        removeIsRefused();
        removeInMixers();
        shiftFromEndToEnd();
        shiftStopsAtTheEnds();
        shiftWithoutCarriers();
        shiftIsRefused();
        productsTakeEachSetting();
        productsAreRefused();
        spacingTakesEachSetting();
        spacingIsRefused();
        sizes();
        carrierIsRefused();
        channelsAtTheEnds();
        Check.end();
    }

    // ---- 1

    private static void newDeskIsEmpty() {
        ChannelSpacer x = new ChannelSpacer();
        for (int what = 0; what <= 2; what++) {
            Check.due("1: size(" + what + ") of a new desk", x.size(what), 0);
        }
        Check.due("1: products()", x.products(), 0);
        Check.due("1: hits()", x.hits(), 0);
        Check.due("1: isClean()", x.isClean(), true);
        Check.due("1: closest()", x.closest(), ChannelSpacer.NONE);
        Check.due("1: removal()", x.removal(), 0);
        Check.due("1: fallout(0)", x.fallout(0), 0);
        Check.due("1: openings(0), all 64", x.openings(0), -1);
        Check.due("1: heard(0, 0)", x.heard(0, 0), 0);
        Check.due("1: diagnoses()", x.diagnoses(), 1);
        Check.due("1: diagnosis()", x.diagnosis(), 0);
        Check.due("1: bestTest(0)", x.bestTest(0), 0);
        Check.due("1: parse() of no text", new ChannelSpacer().parse(), 0);
        Check.due("1: clearText() of no text", x.clearText(), 0);
        Story.refused("1: undo() of a new desk", ChannelSpacer::new, STATE, ChannelSpacer::undo);
    }

    /** The kinds 0 and 1 are on, 2 is off; the losses are 0 and 100; the guard is 0, the spacing 1. */
    private static void desksAreApart() {
        ChannelSpacer changed = three();
        changed.setProducts(4, 300, 0);
        changed.setSpacing(5, 10);
        changed.addMixer(7);
        changed.append(99);
        ChannelSpacer x = new ChannelSpacer();
        Check.due("1: the settings of a new desk", x.digest(), hash(0, 3, 0, 100, 0, 1, 0, 0, 0, 0, 0, 1, 0, 0));
        x.addCarrier(20, 33);
        x.addCarrier(21, 1);
        Check.due("1: the kind 0 alone with two carriers", x.products(), 2);
        Check.due("1: no loss of order 3", x.product(1, 5), 35);
        x.setProducts(4, 0, 100);
        Check.due("1: 3 * 33 + 2 - 100 is the level 1", x.product(0, 5), 1);
        Check.due("1: and the only one", x.products(), 1);
        Check.due("1: neighbours keep the spacing", x.isClean(), true);
    }

    // ---- 2

    private static void everyChannelCanBeTaken() {
        for (int channel = 0; channel <= 63; channel++) {
            ChannelSpacer x = new ChannelSpacer();
            Check.due("2: addCarrier(" + channel + ", 0)", x.addCarrier(channel, 0), 0);
            Check.due("2: channel " + channel, x.carrier(0, false), channel);
            Check.due("10: channel " + channel, x.channels(), 1L << channel);
        }
    }

    private static void everyLevelCanBeGiven() {
        for (int level = 0; level <= 60; level++) {
            ChannelSpacer x = new ChannelSpacer();
            Check.due("2: addCarrier(7, " + level + ")", x.addCarrier(7, level), 0);
            Check.due("2: level " + level, x.carrier(0, true), level);
            Check.due("3: moveCarrier(0, 7, " + (60 - level) + ")", x.moveCarrier(0, 7, 60 - level), 7);
            Check.due("3: level " + (60 - level), x.carrier(0, true), 60 - level);
        }
    }

    private static void channelAndLevelEnd() {
        for (int channel : new int[] {-1, 64, 65, -64, 127, LOWEST, HIGHEST}) {
            Story.refused("2: channel " + channel, ChannelSpacer::new, ARGUMENT, x -> x.addCarrier(channel, 0));
            Story.refused("2: channel " + channel + " of a second", Desks::three, ARGUMENT,
                    x -> x.addCarrier(channel, 60));
        }
        for (int level : new int[] {-1, 61, LOWEST, HIGHEST}) {
            Story.refused("2: level " + level, ChannelSpacer::new, ARGUMENT, x -> x.addCarrier(0, level));
            Story.refused("2: level " + level + " of a second", Desks::tested, ARGUMENT,
                    x -> x.addCarrier(63, level));
        }
    }

    private static void channelIsTakenOnce() {
        for (int channel : new int[] {0, 31, 32, 63}) {
            Story.refused("2: the channel " + channel + " twice", () -> deskOf(channel, 1), ARGUMENT,
                    x -> x.addCarrier(channel, 1));
        }
        for (int channel : new int[] {20, 23, 31}) {
            Story.refused("2: the channel " + channel + " again", Desks::three, ARGUMENT,
                    x -> x.addCarrier(channel, 0));
        }
    }

    private static void tenCarriersAreTheMost() {
        ChannelSpacer x = new ChannelSpacer();
        for (int number = 0; number < 10; number++) {
            Check.due("2: the number", x.addCarrier(63 - number, number), number);
            Check.due("8: as many carriers", x.size(0), number + 1);
        }
        Story.refused("2: an eleventh", Desks::ten, STATE, y -> y.addCarrier(10, 0));
        Story.refused("2: an eleventh at the end of the band", Desks::ten, STATE, y -> y.addCarrier(63, 60));
        Check.due("4: nine are left", x.removeCarrier(4), 9);
        Check.due("2: room for the tenth again", x.addCarrier(0, 0), 9);
        Check.due("37: undone", x.undo(), 3);
        Check.due("2: and again", x.addCarrier(1, 0), 9);
    }

    private static void argumentsComeBeforeRoom() {
        Story.refused("2: full, channel too low", Desks::ten, ARGUMENT, x -> x.addCarrier(-1, 0));
        Story.refused("2: full, channel too high", Desks::ten, ARGUMENT, x -> x.addCarrier(64, 0));
        Story.refused("2: full, level too low", Desks::ten, ARGUMENT, x -> x.addCarrier(10, -1));
        Story.refused("2: full, level too high", Desks::ten, ARGUMENT, x -> x.addCarrier(10, 61));
        Story.refused("2: full, the first one's channel", Desks::ten, ARGUMENT, x -> x.addCarrier(0, 0));
        Story.refused("2: full, the last one's channel", Desks::ten, ARGUMENT, x -> x.addCarrier(9, 0));
    }

    private static void freedChannels() {
        ChannelSpacer x = three();
        x.removeCarrier(2);
        Check.due("2: a removed one's channel", x.addCarrier(31, 0), 2);
        x.moveCarrier(0, 0, 0);
        Check.due("2: a moved one's channel", x.addCarrier(20, 0), 3);
        x.shift(1);
        Check.due("2: a channel that was shifted away", x.addCarrier(0, 0), 4);
        x.undo();
        Check.due("2: a channel that was undone", x.addCarrier(0, 5), 4);
        x.parse();
        Check.due("2: a channel that was parsed away", x.addCarrier(0, 5), 0);
    }

    // ---- 3

    private static void moveToOwnChannel() {
        ChannelSpacer x = three();
        Check.due("3: to its own channel, its own level", x.moveCarrier(0, 20, 30), 20);
        Check.due("3: saved, though nothing changed", x.undo(), 3);
        Check.due("3: to its own channel, another level", x.moveCarrier(2, 31, 60), 31);
        Check.due("3: the level", x.carrier(2, true), 60);
        Check.due("3: the other levels", x.carrier(0, true), 30);
        Check.due("3: the channels", x.channels(), bits(20, 23, 31));
    }

    private static void moveToTheEnds() {
        ChannelSpacer x = three();
        Check.due("3: to the channel 0", x.moveCarrier(2, 0, 0), 31);
        Check.due("3: from the channel 0 to 63", x.moveCarrier(2, 63, 60), 0);
        Check.due("3: from the channel 63", x.moveCarrier(2, 31, 60), 63);
        Check.due("3: the numbers stay", x.carrier(2, false), 31);
        ChannelSpacer full = ten();
        Check.due("3: the tenth of ten", full.moveCarrier(9, 63, 60), 9);
        Check.due("3: the first of ten to the channel of the tenth before", full.moveCarrier(0, 9, 60), 0);
        Check.due("3: their channels", full.channels(), bits(1, 2, 3, 4, 5, 6, 7, 8, 9, 63));
    }

    private static void moveIsRefused() {
        Story.refused("3: no carriers", ChannelSpacer::new, INDEX, x -> x.moveCarrier(0, 0, 0));
        for (int carrier : new int[] {-1, 3, 4, 10, 32, LOWEST, HIGHEST}) {
            Story.refused("3: carrier " + carrier, Desks::three, INDEX, x -> x.moveCarrier(carrier, 0, 0));
            Story.refused("3: carrier " + carrier + ", channel wrong too", Desks::three, INDEX,
                    x -> x.moveCarrier(carrier, 64, 0));
            Story.refused("3: carrier " + carrier + ", level wrong too", Desks::three, INDEX,
                    x -> x.moveCarrier(carrier, 0, 61));
            Story.refused("3: carrier " + carrier + ", channel taken too", Desks::three, INDEX,
                    x -> x.moveCarrier(carrier, 20, 0));
        }
        Story.refused("3: the eleventh of ten", Desks::ten, INDEX, x -> x.moveCarrier(10, 20, 0));
        for (int channel : new int[] {-1, 64, 20, 31, LOWEST, HIGHEST}) {
            Story.refused("3: channel " + channel, Desks::three, ARGUMENT, x -> x.moveCarrier(1, channel, 0));
        }
        for (int level : new int[] {-1, 61, LOWEST, HIGHEST}) {
            Story.refused("3: level " + level, Desks::tested, ARGUMENT, x -> x.moveCarrier(1, 13, level));
        }
    }

    // ---- 4

    private static void removeFirstMiddleLast() {
        int[][] due = {{1, 2, 3, 4, 5, 6, 7, 8, 9}, {0, 1, 2, 3, 5, 6, 7, 8, 9}, {0, 1, 2, 3, 4, 5, 6, 7, 8}};
        int[] removed = {0, 4, 9};
        for (int i = 0; i < removed.length; i++) {
            ChannelSpacer x = ten();
            Check.due("4: left without " + removed[i], x.removeCarrier(removed[i]), 9);
            for (int carrier = 0; carrier < 9; carrier++) {
                Check.due("4: channel behind " + removed[i], x.carrier(carrier, false), due[i][carrier]);
                Check.due("4: level behind " + removed[i], x.carrier(carrier, true), due[i][carrier]);
            }
            Story.refused("4: no tenth behind " + removed[i], () -> nineOfTen(), INDEX, y -> y.carrier(9, false));
        }
        ChannelSpacer x = ten();
        for (int left = 9; left >= 0; left--) {
            Check.due("4: always the first one", x.removeCarrier(0), left);
            Check.due("4: channels", x.channels(), 1023 & ~((1L << (10 - left)) - 1));
        }
    }

    private static ChannelSpacer nineOfTen() {
        ChannelSpacer x = ten();
        x.removeCarrier(9);
        return x;
    }

    private static void removeIsRefused() {
        Story.refused("4: no carriers", ChannelSpacer::new, INDEX, x -> x.removeCarrier(0));
        for (int carrier : new int[] {-1, 2, 10, LOWEST, HIGHEST}) {
            Story.refused("4: carrier " + carrier, Desks::tested, INDEX, x -> x.removeCarrier(carrier));
        }
        Story.refused("4: the eleventh of ten", Desks::ten, INDEX, x -> x.removeCarrier(10));
        Story.refused("4: the tenth of nine", CarrierEdgeTest::nineOfTen, INDEX, x -> x.removeCarrier(9));
    }

    private static void removeInMixers() {
        int[] mixers = {0b1111111111, 0b1000000001, 0b0000010000, 0, 0b1000000000};
        int[][] due = {
            {0, 0b111111111, 0b100000000, 0b000001000, 0, 0b100000000},
            {4, 0b111111111, 0b100000001, 0, 0, 0b100000000},
            {9, 0b111111111, 0b000000001, 0b000010000, 0, 0},
        };
        for (int[] row : due) {
            ChannelSpacer x = ten();
            for (int set : mixers) {
                x.addMixer(set);
            }
            x.removeCarrier(row[0]);
            Check.due("4: mixers stay, also empty ones", x.size(1), 5);
            for (int mixer = 0; mixer < 5; mixer++) {
                Check.due("4: mixer " + mixer + " without " + row[0], x.mixer(mixer), row[1 + mixer]);
            }
            x.undo();
            Check.due("37: a mixer again", x.mixer(1), 0b1000000001);
        }
    }

    // ---- 5

    private static void shiftFromEndToEnd() {
        ChannelSpacer x = deskOf(0, 9);
        Check.due("5: by 63", x.shift(63), 1);
        Check.due("5: at the end", x.channels(), Long.MIN_VALUE);
        Check.due("5: by -63", x.shift(-63), 1);
        Check.due("5: at the beginning", x.channels(), 1);
        Check.due("5: by 0", x.shift(0), 1);
        Check.due("5: there still", x.carrier(0, false), 0);
        Check.due("5: the level stays", x.carrier(0, true), 9);
        ChannelSpacer full = ten();
        Check.due("5: ten to the end", full.shift(54), 10);
        Check.due("5: the last of ten", full.carrier(9, false), 63);
        Check.due("5: the first of ten", full.carrier(0, false), 54);
    }

    private static ChannelSpacer wide() {
        return deskOf(30, 1, 63, 2, 0, 3);
    }

    private static void shiftStopsAtTheEnds() {
        Check.due("5: a full width by 0", wide().shift(0), 3);
        for (int by : new int[] {1, -1, 63, -63}) {
            Story.refused("5: a full width by " + by, CarrierEdgeTest::wide, STATE, x -> x.shift(by));
        }
        for (int by = -63; by <= 63; by++) {
            ChannelSpacer x = deskOf(10, 1, 50, 2);
            int step = by;
            if (by >= -10 && by <= 13) {
                Check.due("5: by " + by, x.shift(by), 2);
                Check.due("5: channels by " + by, x.channels(), bits(10 + by, 50 + by));
            } else {
                Check.refused("5: by " + by, x, STATE, () -> x.shift(step));
            }
        }
    }

    private static void shiftWithoutCarriers() {
        for (int by = -63; by <= 63; by++) {
            Check.due("5: nothing by " + by, new ChannelSpacer().shift(by), 0);
        }
        ChannelSpacer x = new ChannelSpacer();
        x.shift(63);
        Check.due("5: saved without carriers", x.undo(), 0);
    }

    private static void shiftIsRefused() {
        for (int by : new int[] {-64, 64, -65, LOWEST, HIGHEST}) {
            Story.refused("5: nothing by " + by, ChannelSpacer::new, ARGUMENT, x -> x.shift(by));
            Story.refused("5: by " + by + ", out of the band too", Desks::tested, ARGUMENT, x -> x.shift(by));
        }
        Story.refused("5: out of the band below", Desks::tested, STATE, x -> x.shift(-11));
        Story.refused("5: out of the band above", Desks::tested, STATE, x -> x.shift(51));
    }

    // ---- 6

    /** The kinds make 6, 3 and 5 products of these carriers. */
    private static void productsTakeEachSetting() {
        ChannelSpacer x = loud(3, 20, 23, 31);
        int before = 3;
        for (int kinds = 0; kinds <= 7; kinds++) {
            Check.due("6: before the kinds " + kinds, x.setProducts(kinds, 0, 0), before);
            int due = (kinds & 1) * 6 + (kinds >> 1 & 1) * 3 + (kinds >> 2) * 5;
            Check.due("6: products with the kinds " + kinds, x.products(), due);
            before = kinds;
        }
        for (int loss : new int[] {0, 300}) {
            Check.due("6: loss3 " + loss, x.setProducts(7, loss, 0), 7);
            Check.due("6: kept loss3 " + loss, x.products(), loss == 0 ? 14 : 5);
            Check.due("6: loss5 " + loss, x.setProducts(7, 0, loss), 7);
            Check.due("6: kept loss5 " + loss, x.product(9, 5), 300 - loss);
            Check.due("6: loss3 is 0 again", x.product(8, 5), 180);
        }
    }

    private static void productsAreRefused() {
        for (int kinds : new int[] {-1, 8, 16, LOWEST, HIGHEST}) {
            Story.refused("6: kinds " + kinds, Desks::tested, ARGUMENT, x -> x.setProducts(kinds, 0, 0));
        }
        for (int loss : new int[] {-1, 301, LOWEST, HIGHEST}) {
            Story.refused("6: loss3 " + loss, Desks::tested, ARGUMENT, x -> x.setProducts(7, loss, 300));
            Story.refused("6: loss5 " + loss, Desks::tested, ARGUMENT, x -> x.setProducts(7, 300, loss));
        }
    }

    // ---- 7

    private static void spacingTakesEachSetting() {
        ChannelSpacer x = deskOf(20, 0, 30, 0);
        x.setProducts(0, 0, 0);
        int before = 0;
        for (int guard = 0; guard <= 5; guard++) {
            for (int spacing = 1; spacing <= 10; spacing++) {
                Check.due("7: before " + guard + ", " + spacing, x.setSpacing(guard, spacing), before);
                before = guard;
            }
        }
        Check.due("7: the greatest ones", x.digest(), hash(0, 0, 0, 0, 5, 10, 2, 20, 0, 30, 0, 0, 0, 0, 0, 1, 0, 4));
        Check.due("7: saved, though nothing changes", x.setSpacing(5, 10), 5);
        Check.due("7: undone", x.undo(), 3);
    }

    private static void spacingIsRefused() {
        for (int guard : new int[] {-1, 6, LOWEST, HIGHEST}) {
            Story.refused("7: guard " + guard, Desks::tested, ARGUMENT, x -> x.setSpacing(guard, 10));
        }
        for (int spacing : new int[] {0, 11, -1, LOWEST, HIGHEST}) {
            Story.refused("7: spacing " + spacing, Desks::tested, ARGUMENT, x -> x.setSpacing(5, spacing));
        }
    }

    // ---- 8 to 10

    private static void sizes() {
        ChannelSpacer x = ten();
        for (int i = 0; i < 5; i++) {
            x.addMixer(i);
        }
        for (int i = 0; i < 16; i++) {
            x.addTest(i, i, false);
        }
        Check.due("8: the most carriers", x.size(0), 10);
        Check.due("8: the most mixers", x.size(1), 5);
        Check.due("8: the most tests", x.size(2), 16);
        for (int what : new int[] {-1, 3, LOWEST, HIGHEST}) {
            Story.refused("8: what " + what, Desks::tested, ARGUMENT, y -> y.size(what));
        }
    }

    private static void carrierIsRefused() {
        for (boolean level : new boolean[] {false, true}) {
            Story.refused("9: no carriers", ChannelSpacer::new, INDEX, x -> x.carrier(0, level));
            for (int carrier : new int[] {-1, 2, 10, LOWEST, HIGHEST}) {
                Story.refused("9: carrier " + carrier, Desks::tested, INDEX, x -> x.carrier(carrier, level));
            }
            Story.refused("9: the eleventh of ten", Desks::ten, INDEX, x -> x.carrier(10, level));
        }
        Check.due("9: the tenth of ten", ten().carrier(9, false), 9);
        Check.due("9: the first of ten", ten().carrier(0, false), 0);
    }

    private static void channelsAtTheEnds() {
        Check.due("10: the channel 63 alone", deskOf(63, 0).channels(), Long.MIN_VALUE);
        Check.due("10: the channel 31 alone", deskOf(31, 0).channels(), 0x80000000L);
        Check.due("10: the channel 32 alone", deskOf(32, 0).channels(), 0x100000000L);
        ChannelSpacer x = deskOf(0, 0);
        x.removeCarrier(0);
        Check.due("10: none again", x.channels(), 0);
    }
}
