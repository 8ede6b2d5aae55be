/** The boundary cases of the promises 34 to 36: the plan text and what is read from it. */
public final class TextEdgeTest extends Desks {
    private static final String TEN = "c0,0;c1,1;c2,2;c3,3;c4,4;c5,5;c6,6;c7,7;c8,8;c9,9;";
    private static final String FIVE = "m0;m0;m0;m0;m0;";

    private TextEdgeTest() {
    }

    public static void main(String[] args) {
        everyByteCanBeAppended();
        textEndsAt120();
        appendIsRefused();
        clearAndAppendAgain();
        clearedBytesAreGone();
        textIsNotUndone();
        noItems();
        whatCanStandWhere();
        textsThatEndTooEarly();
        aWrongByteAnywhere();
        thirdDigits();
        channelsAndLevelsOutOfRange();
        channelsTwice();
        membersThatDoNotExist();
        membersTwice();
        tenCarriersAndFiveMixers();
        eleventhAndSixth();
        aTextOf120();
        itemsInAnyOrder();
        theTextStays();
        onlyTheTextCounts();
        settingsStay();
        errorsChangeNothing();
        parseSavesAlways();
        Check.end();
    }

    /** The answer must tell the error at this position. */
    private static void error(String text, int position) {
        Check.due("36: error of " + text, parsed(text), -10 - position);
    }

    private static void items(String text, int items) {
        Check.due("36: items of " + text, parsed(text), items);
    }

    // ---- 34 and 35

    private static void everyByteCanBeAppended() {
        for (int value = 0; value <= 127; value++) {
            ChannelSpacer x = new ChannelSpacer();
            Check.due("34: append(" + value + ")", x.append(value), 1);
            Check.due("36: the byte " + value, x.parse(), value == 'c' || value == 'm' ? -11 : -10);
            Check.due("35: clearText()", x.clearText(), 1);
        }
    }

    private static ChannelSpacer filled(int length) {
        ChannelSpacer x = tested();
        for (int i = 0; i < length; i++) {
            x.append('c');
        }
        return x;
    }

    private static void textEndsAt120() {
        ChannelSpacer x = new ChannelSpacer();
        for (int length = 1; length <= 120; length++) {
            Check.due("34: the length", x.append(length), length);
        }
        Check.due("35: all of it", x.clearText(), 120);
        Check.due("34: the last one", filled(119).append(127), 120);
        for (int value : new int[] {0, 127, 'c'}) {
            Story.refused("34: one too many, " + value, () -> filled(120), STATE, y -> y.append(value));
        }
    }

    private static void appendIsRefused() {
        for (int value : new int[] {-1, 128, 255, 256, LOWEST, HIGHEST}) {
            Story.refused("34: value " + value, ChannelSpacer::new, ARGUMENT, x -> x.append(value));
            Story.refused("34: value " + value + ", one before the end", () -> filled(119), ARGUMENT,
                    x -> x.append(value));
            Story.refused("34: value " + value + ", full too", () -> filled(120), ARGUMENT, x -> x.append(value));
        }
    }

    private static void clearAndAppendAgain() {
        ChannelSpacer x = filled(120);
        Check.due("35: full", x.clearText(), 120);
        Check.due("35: empty", x.clearText(), 0);
        Check.due("36: no old bytes", x.parse(), 0);
        Check.due("34: the first again", x.append('m'), 1);
        Check.due("36: no old bytes behind it", x.parse(), -11);
        Check.due("35: one", x.clearText(), 1);
    }

    /** Behind the end of a text stand no bytes of the text before, whatever its length is. */
    private static void clearedBytesAreGone() {
        String text = "c12,34;c5,6;m0,1;m01;";
        for (int length = 0; length <= text.length(); length++) {
            ChannelSpacer x = new ChannelSpacer();
            write(x, text);
            x.parse();
            write(x, text.substring(0, length));
            Check.due("35: the first " + length + " bytes behind all of them", x.parse(),
                    parsed(text.substring(0, length)));
        }
    }

    private static void textIsNotUndone() {
        ChannelSpacer x = new ChannelSpacer();
        x.append('c');
        Check.refused("37: append() saves nothing", x, STATE, x::undo);
        x.clearText();
        Check.refused("37: clearText() saves nothing", x, STATE, x::undo);
        x.addCarrier(5, 5);
        write(x, "c1,1;");
        x.undo();
        Check.due("37: the text stays", x.parse(), 1);
        x.clearText();
        x.undo();
        Check.due("37: it stays empty, too", x.clearText(), 0);
    }

    // ---- 36

    private static void noItems() {
        Check.due("36: no text", new ChannelSpacer().parse(), 0);
        ChannelSpacer x = tested();
        Check.due("36: no items", x.parse(), 0);
        Check.due("36: no carriers", x.size(0), 0);
        Check.due("36: no mixers", x.size(1), 0);
        Check.due("36: no tests", x.size(2), 0);
        x.undo();
        Check.due("36: and back", x.size(2), 2);
        error(";", 0);
        error("c1,1;;", 5);
    }

    /** Behind these texts just these bytes can stand; after ';' the item is complete. */
    private static void whatCanStandWhere() {
        String[][] due = {
            {"", "cm"}, {"c", "0123456789"}, {"c1", ",0123456789"}, {"c12", ","}, {"c12,", "0123456789"},
            {"c12,3", ";0123456789"}, {"c12,34", ";"}, {"c12,34;", "cm"}, {"c12,34;m", "0"},
            {"c12,34;m00", ",;"}, {"c1,0;c2,0;c3,0;m2", ",;"}, {"c1,0;c2,0;c3,0;m2,", "01"},
            {"c1,0;c2,0;c3,0;m02,01,", "0"}, {"c1,0;c2,0;c3,0;m02,01;", "cm"},
        };
        for (String[] row : due) {
            for (char sign = 0; sign <= 127; sign++) {
                boolean can = row[1].indexOf(sign) >= 0;
                // The digits behind m2 make a carrier that does not exist: the error is at the first digit.
                boolean isMember = row[0].endsWith("m2") && sign >= '0' && sign <= '9';
                int length = row[0].length();
                int position = isMember ? length - 1 : can ? length + 1 : length;
                String what = "36: the byte " + (int) sign + " behind " + row[0];
                boolean isWhole = can && sign == ';';
                int items = row[0].split(";", -1).length;
                Check.due(what, parsed(row[0] + sign), isWhole ? items : -10 - position);
            }
        }
    }

    private static void textsThatEndTooEarly() {
        String text = "c00,60;c63,0;m0;c7,7;m01,2,0;";
        int whole = 0;
        for (int length = 0; length <= text.length(); length++) {
            String start = text.substring(0, length);
            boolean isWhole = start.isEmpty() || start.endsWith(";");
            whole += start.endsWith(";") ? 1 : 0;
            Check.due("36: the text ends: " + start, parsed(start), isWhole ? whole : -10 - length);
        }
        items(text, 5);
    }

    private static void aWrongByteAnywhere() {
        String text = "c00,60;c63,0;m0;c7,7;m01,2,0;";
        for (char sign : new char[] {0, ' ', '-', '.', '/', ':', 'C', 'M', 'a', 'n', 127}) {
            for (int at = 0; at <= text.length(); at++) {
                error(text.substring(0, at) + sign + text.substring(at), at);
                if (at < text.length()) {
                    error(text.substring(0, at) + sign + text.substring(at + 1), at);
                }
            }
        }
        error("c00,60;c", 8);
        error("c00,60;,", 7);
        error("c00;60,", 3);
        error("m0,c", 1);
        error("c1,1;m0;0", 8);
    }

    private static void thirdDigits() {
        error("c000,1;", 3);
        error("c001", 3);
        error("c630,1;", 3);
        error("c640,1;", 3);
        error("c999", 3);
        error("c1,000;", 5);
        error("c1,600;", 5);
        error("c1,610;", 5);
        error("c12,345", 6);
        error("c1,1;m000;", 8);
        error("c1,1;m100;", 8);
        error("c1,1;m0,000;", 10);
        error("c1,1;c01,1;", 6);
        error("c1,1;c011,1;", 8);
        items("c01,01;m00;", 2);
    }

    private static void channelsAndLevelsOutOfRange() {
        items("c0,0;c63,60;", 2);
        for (int number = 0; number <= 99; number++) {
            String channel = "c" + number;
            String level = "c1," + number;
            for (String behind : new String[] {",1;", ",", ";", "x", "c", "m", ""}) {
                int good = behind.startsWith(",") ? (behind.equals(",1;") ? -1 : channel.length() + 1)
                        : channel.length();
                int due = number > 63 ? 1 : good;
                Check.due("36: channel " + channel + behind, parsed(channel + behind), due < 0 ? 1 : -10 - due);
            }
            for (String behind : new String[] {";", ",", "x", "c", "m", ""}) {
                int due = number > 60 ? 3 : behind.equals(";") ? -1 : level.length();
                Check.due("36: level " + level + behind, parsed(level + behind), due < 0 ? 1 : -10 - due);
            }
        }
    }

    private static void channelsTwice() {
        error("c7,1;c7,1;", 6);
        error("c7,1;c07,1;", 6);
        error("c07,1;c7,1;", 7);
        error("c7,1;c7", 6);
        error("c7,1;c7;", 6);
        error("c7,1;c7x", 6);
        error("c7,1;c7,61;", 6);
        error("c0,1;c63,1;c0,1;", 12);
        error("c0,1;c63,1;c63,1;", 12);
        items("c7,1;c17,1;", 2);
        items("c7,7;c8,7;", 2);
        ChannelSpacer x = deskOf(7, 7);
        write(x, "c7,1;");
        Check.due("36: a channel of the carriers from before is free", x.parse(), 1);
        Check.due("36: the level of the text", x.carrier(0, true), 1);
        Check.due("36: once more", x.parse(), 1);
    }

    private static void membersThatDoNotExist() {
        error("m0;", 1);
        error("m0", 1);
        error("m00,", 1);
        error("m0x", 1);
        error("m;", 1);
        error("m,", 1);
        error("m", 1);
        error("c1,1;m1;", 6);
        error("c1,1;m01", 6);
        error("c1,1;m0,1;", 8);
        error("c1,1;m0,1x", 8);
        error("c1,1;m0,10", 8);
        error("c1,1;m0,99;", 8);
        error("m0;c1,1;", 1);
        error("c1,1;m1;c2,2;", 6);
        error(TEN + "m10;", 51);
        error(TEN + "m9,10;", 53);
        items(TEN + "m9;", 11);
        items(TEN + "m09;", 11);
        ChannelSpacer x = three();
        write(x, "m0;");
        Check.due("36: the carriers from before are not told", x.parse(), -11);
    }

    private static void membersTwice() {
        error("c1,1;m0,0;", 8);
        error("c1,1;m0,00;", 8);
        error("c1,1;m00,0;", 9);
        error("c1,1;m0,0", 8);
        error("c1,1;m0,0x", 8);
        error("c1,1;c2,2;m1,0,1;", 15);
        error("c1,1;c2,2;m0,1,1;", 15);
        items("c1,1;c2,2;m0,1;m1,0;m0;m1;", 6);
        error(TEN + "m0,1,2,3,4,5,6,7,8,9,9;", 71);
        items(TEN + "m9,8,7,6,5,4,3,2,1,0;", 11);
    }

    private static void tenCarriersAndFiveMixers() {
        ChannelSpacer x = new ChannelSpacer();
        write(x, TEN + "m0;m9;m0,9;m9,0;m0,1,2,3,4,5,6,7,8,9;");
        Check.due("36: fifteen items", x.parse(), 15);
        Check.due("36: ten carriers", x.size(0), 10);
        Check.due("36: five mixers", x.size(1), 5);
        int[] due = {1, 512, 513, 513, 1023};
        for (int mixer = 0; mixer < 5; mixer++) {
            Check.due("36: mixer " + mixer, x.mixer(mixer), due[mixer]);
        }
        for (int carrier = 0; carrier < 10; carrier++) {
            Check.due("36: channel of " + carrier, x.carrier(carrier, false), carrier);
            Check.due("36: level of " + carrier, x.carrier(carrier, true), carrier);
        }
    }

    private static void eleventhAndSixth() {
        error(TEN + "c", 50);
        error(TEN + "c10,1;", 50);
        error(TEN + "c0", 50);
        error(TEN + FIVE + "c10,1;", 65);
        error(TEN + FIVE + "m", 65);
        error(TEN + FIVE + "m0;", 65);
        error("c1,1;" + FIVE + "m0;", 20);
        items("c1,1;" + FIVE, 6);
        items("c1,1;" + FIVE + "c2,2;", 7);
        items(TEN + FIVE, 15);
        ChannelSpacer x = ten();
        for (int i = 0; i < 5; i++) {
            x.addMixer(i);
        }
        write(x, TEN + FIVE);
        Check.due("36: those from before take no room", x.parse(), 15);
    }

    private static void aTextOf120() {
        StringBuilder text = new StringBuilder();
        for (int channel = 10; channel < 20; channel++) {
            text.append('c').append(channel).append(",10;");
        }
        text.append("m0,1,2,3,4,5,6,7,8,9;m9,8,7,6,5,4,3,2,1,0;m00,1,2");
        Check.due("the length of the text", text.length(), 119);
        error(text.toString(), 119);
        items(text + ";", 13);
        error(text + ",", 120);
        error(text + "x", 119);
        error(text + "3", 118);
        error(text + "c", 119);
        ChannelSpacer x = new ChannelSpacer();
        write(x, text + ";");
        Check.refused("34: no room behind it", x, STATE, () -> x.append(';'));
        Check.due("36: the whole text", x.parse(), 13);
        Check.due("36: its last mixer", x.mixer(2), 7);
    }

    private static void itemsInAnyOrder() {
        ChannelSpacer x = new ChannelSpacer();
        write(x, "c63,60;m0;c0,0;m1,0;");
        Check.due("36: items", x.parse(), 4);
        Check.due("36: the first carrier", x.carrier(0, false), 63);
        Check.due("36: its level", x.carrier(0, true), 60);
        Check.due("36: the second carrier", x.carrier(1, false), 0);
        Check.due("36: its level", x.carrier(1, true), 0);
        Check.due("36: the first mixer", x.mixer(0), 1);
        Check.due("36: the second mixer", x.mixer(1), 3);
    }

    private static void theTextStays() {
        ChannelSpacer x = new ChannelSpacer();
        write(x, "c1,1;c2");
        Check.due("36: an error", x.parse(), -17);
        Check.due("36: the same error", x.parse(), -17);
        Check.due("34: it goes on", x.append(','), 8);
        x.append('9');
        Check.due("34: to the end", x.append(';'), 10);
        Check.due("36: two items", x.parse(), 2);
        Check.due("36: two items again", x.parse(), 2);
        Check.due("8: not four", x.size(0), 2);
        Check.due("35: the text", x.clearText(), 10);
    }

    private static void onlyTheTextCounts() {
        ChannelSpacer x = tested();
        x.addMixer(1);
        write(x, "c50,5;");
        Check.due("36: one item", x.parse(), 1);
        Check.due("8: one carrier", x.size(0), 1);
        Check.due("8: no mixers", x.size(1), 0);
        Check.due("10: its channel alone", x.channels(), 1L << 50);
        Check.due("24: the first mixer is empty before", x.addMixer(0), 0);
        Check.due("26: and it is", x.mixer(0), 0);
    }

    private static void settingsStay() {
        ChannelSpacer x = three();
        x.setProducts(5, 7, 9);
        x.setSpacing(4, 6);
        write(x, "c1,2;");
        x.parse();
        Check.due("36: the settings", x.digest(), hash(5, 5, 7, 9, 4, 6, 1, 1, 2, 0, 0, 0, 0, 1, 0, 4));
    }

    private static void errorsChangeNothing() {
        String[] texts = {"x", "c1,1;m1;", "c1,1;c2,2", "c1,1;m0,", "c1,1;c1,1;", "c1,99;", "c1,1;m0;x"};
        for (String text : texts) {
            Story.changesNothing("36: the error of " + text, () -> told(text), ChannelSpacer::parse);
        }
        ChannelSpacer x = told("c1,1;m0,");
        x.parse();
        Check.due("36: the tests stay", x.size(2), 2);
        Check.due("36: the carriers stay", x.channels(), bits(10, 13));
    }

    private static ChannelSpacer told(String text) {
        ChannelSpacer x = tested();
        write(x, text);
        return x;
    }

    private static void parseSavesAlways() {
        ChannelSpacer x = deskOf(1, 1);
        write(x, "c1,1;");
        x.parse();
        Check.due("37: saved, though nothing changed", x.undo(), 1);
        Check.due("37: the first one is undone", x.undo(), 0);
        Check.due("8: no carriers", x.size(0), 0);
        x.parse();
        Check.due("37: the one of the text is undone", x.undo(), 0);
        Check.due("8: no carriers again", x.size(0), 0);
    }
}
