/** Desks to begin with, and what the tests share; a test extends it to have the names at hand. */
abstract class Desks {
    static final Class<IllegalArgumentException> ARGUMENT = IllegalArgumentException.class;
    static final Class<IllegalStateException> STATE = IllegalStateException.class;
    static final Class<IndexOutOfBoundsException> INDEX = IndexOutOfBoundsException.class;
    static final int LOWEST = Integer.MIN_VALUE;
    static final int HIGHEST = Integer.MAX_VALUE;

    /** Carriers (channel, level) one behind the other. */
    static ChannelSpacer deskOf(int... pairs) {
        ChannelSpacer x = new ChannelSpacer();
        for (int i = 0; i + 1 < pairs.length; i += 2) {
            x.addCarrier(pairs[i], pairs[i + 1]);
        }
        return x;
    }

    /** Carriers with the level 60, and the kinds that are on, without losses. */
    static ChannelSpacer loud(int kinds, int... channels) {
        ChannelSpacer x = new ChannelSpacer();
        for (int channel : channels) {
            x.addCarrier(channel, 60);
        }
        x.setProducts(kinds, 0, 0);
        return x;
    }

    /** Products of the kind 0: 17, 9, 26, 15, 42, 39; of the kind 1: 12, 28, 34; of the kind 2: 14, 29, 7, 53, 47. */
    static ChannelSpacer three() {
        return deskOf(20, 30, 23, 20, 31, 0);
    }

    static ChannelSpacer ten() {
        ChannelSpacer x = new ChannelSpacer();
        for (int i = 0; i < 10; i++) {
            x.addCarrier(i, i);
        }
        return x;
    }

    /** Two carriers and a mixer of both, whose products fall on the channels 7 and 16, with a test of each kind. */
    static ChannelSpacer tested() {
        ChannelSpacer x = deskOf(10, 60, 13, 60);
        x.addMixer(3);
        x.addTest(3, 7, true);
        x.addTest(1, 7, false);
        return x;
    }

    static void write(ChannelSpacer x, String text) {
        x.clearText();
        for (int i = 0; i < text.length(); i++) {
            x.append(text.charAt(i));
        }
    }

    static int parsed(String text) {
        ChannelSpacer x = new ChannelSpacer();
        write(x, text);
        return x.parse();
    }

    static long bits(int... numbers) {
        long set = 0;
        for (int number : numbers) {
            set |= 1L << number;
        }
        return set;
    }

    static long hash(int... values) {
        long h = 3067;
        for (int v : values) {
            h = 31 * h + v;
        }
        return h;
    }
}
