import java.util.ArrayList;
import java.util.Comparator;
import java.util.List;

/** The document in its simplest words, by trying everything: what the desk is compared with. */
final class Model {
    private static final class Carrier {
        final int channel;
        final int level;

        Carrier(int channel, int level) {
            this.channel = channel;
            this.level = level;
        }
    }

    private static final class Product {
        final int[] facts;
        final int parts;

        Product(int kind, int a, int b, int c, int channel, int level) {
            facts = new int[] {kind, a, b, c, channel, level};
            parts = 1 << a | 1 << b | (c < 0 ? 0 : 1 << c);
        }
    }

    private static final class State {
        int kinds = 3;
        int loss3 = 0;
        int loss5 = 100;
        int guard = 0;
        int spacing = 1;
        List<Carrier> carriers = new ArrayList<>();
        List<Integer> mixers = new ArrayList<>();
        List<int[]> tests = new ArrayList<>();

        State copy() {
            State s = new State();
            s.kinds = kinds;
            s.loss3 = loss3;
            s.loss5 = loss5;
            s.guard = guard;
            s.spacing = spacing;
            s.carriers.addAll(carriers);
            s.mixers.addAll(mixers);
            s.tests.addAll(tests);
            return s;
        }
    }

    private State state = new State();
    private final List<State> saved = new ArrayList<>();
    private final StringBuilder text = new StringBuilder();

    // ---- carriers

    int addCarrier(int channel, int level) {
        argument(channel >= 0 && channel <= 63 && level >= 0 && level <= 60 && owner(channel) < 0);
        room(state.carriers.size() < 10);
        save();
        state.carriers.add(new Carrier(channel, level));
        state.tests.clear();
        return state.carriers.size() - 1;
    }

    int moveCarrier(int carrier, int channel, int level) {
        index(carrier, state.carriers.size());
        argument(channel >= 0 && channel <= 63 && level >= 0 && level <= 60);
        argument(owner(channel) < 0 || owner(channel) == carrier);
        save();
        int before = state.carriers.get(carrier).channel;
        state.carriers.set(carrier, new Carrier(channel, level));
        state.tests.clear();
        return before;
    }

    int removeCarrier(int carrier) {
        index(carrier, state.carriers.size());
        save();
        state.carriers.remove(carrier);
        for (int m = 0; m < state.mixers.size(); m++) {
            int set = 0;
            for (int old = 0; old < 10; old++) {
                if (old != carrier && (state.mixers.get(m) & 1 << old) != 0) {
                    set |= 1 << (old > carrier ? old - 1 : old);
                }
            }
            state.mixers.set(m, set);
        }
        state.tests.clear();
        return state.carriers.size();
    }

    int shift(int by) {
        argument(by >= -63 && by <= 63);
        for (Carrier c : state.carriers) {
            room(c.channel + by >= 0 && c.channel + by <= 63);
        }
        save();
        for (int i = 0; i < state.carriers.size(); i++) {
            Carrier c = state.carriers.get(i);
            state.carriers.set(i, new Carrier(c.channel + by, c.level));
        }
        state.tests.clear();
        return state.carriers.size();
    }

    int setProducts(int kinds, int loss3, int loss5) {
        argument(kinds >= 0 && kinds <= 7 && loss3 >= 0 && loss3 <= 300 && loss5 >= 0 && loss5 <= 300);
        save();
        int before = state.kinds;
        state.kinds = kinds;
        state.loss3 = loss3;
        state.loss5 = loss5;
        state.tests.clear();
        return before;
    }

    int setSpacing(int guard, int spacing) {
        argument(guard >= 0 && guard <= 5 && spacing >= 1 && spacing <= 10);
        save();
        int before = state.guard;
        state.guard = guard;
        state.spacing = spacing;
        state.tests.clear();
        return before;
    }

    int size(int what) {
        argument(what >= 0 && what <= 2);
        return what == 0 ? state.carriers.size() : what == 1 ? state.mixers.size() : state.tests.size();
    }

    int carrier(int carrier, boolean level) {
        index(carrier, state.carriers.size());
        return level ? state.carriers.get(carrier).level : state.carriers.get(carrier).channel;
    }

    long channels() {
        long set = 0;
        for (Carrier c : state.carriers) {
            set |= 1L << c.channel;
        }
        return set;
    }

    // ---- products and hits

    int products() {
        return productsOf(state.carriers).size();
    }

    int product(int index, int what) {
        List<Product> all = productsOf(state.carriers);
        index(index, all.size());
        argument(what >= 0 && what <= 5);
        return all.get(index).facts[what];
    }

    long fallout(int carriers) {
        argument(carriers >= 0 && carriers < 1 << state.carriers.size());
        long set = 0;
        for (Product p : productsOf(state.carriers)) {
            if ((p.parts & ~carriers) == 0) {
                set |= 1L << p.facts[4];
            }
        }
        return set;
    }

    int hits() {
        return hitsAmong(state.carriers);
    }

    int hitsOn(int carrier) {
        index(carrier, state.carriers.size());
        int count = 0;
        for (Product p : productsOf(state.carriers)) {
            if (distance(p.facts[4], state.carriers.get(carrier).channel) <= state.guard) {
                count++;
            }
        }
        return count;
    }

    boolean isClean() {
        return clean(state.carriers);
    }

    int closest() {
        int least = 1000;
        for (int channel = 0; channel < 64; channel++) {
            for (int other = channel + 1; other < 64; other++) {
                if (owner(channel) >= 0 && owner(other) >= 0) {
                    least = Math.min(least, other - channel);
                }
            }
        }
        return least == 1000 ? -1 : least;
    }

    int removal() {
        for (int count = 0; count <= 10; count++) {
            for (int set = 0; set < 1 << state.carriers.size(); set++) {
                if (Integer.bitCount(set) == count && clean(without(set))) {
                    return set;
                }
            }
        }
        throw new AssertionError("the empty set is clean");
    }

    // ---- spans

    int leastSpan(int marks) {
        argument(marks >= 1 && marks <= 6);
        for (int span = 0; span <= 40; span++) {
            if (!rulersOf(marks, span, true).isEmpty()) {
                return span;
            }
        }
        return -1;
    }

    long bestRuler(int marks) {
        argument(marks >= 1 && marks <= 6);
        for (int span = 0; span <= 40; span++) {
            List<Long> found = rulersOf(marks, span, true);
            if (!found.isEmpty()) {
                return found.get(0);
            }
        }
        return 0;
    }

    int rulers(int marks, int span) {
        argument(marks >= 1 && marks <= 5 && span >= 0 && span <= 40);
        return rulersOf(marks, span, false).size();
    }

    long openings(int level) {
        argument(level >= 0 && level <= 60);
        long set = 0;
        for (int channel = 0; channel < 64; channel++) {
            List<Carrier> more = new ArrayList<>(state.carriers);
            more.add(new Carrier(channel, level));
            if (owner(channel) < 0 && clean(more)) {
                set |= 1L << channel;
            }
        }
        return set;
    }

    int putIn(int level) {
        argument(level >= 0 && level <= 60);
        room(state.carriers.size() < 10);
        long open = openings(level);
        if (open == 0) {
            return -1;
        }
        int channel = Long.numberOfTrailingZeros(open);
        addCarrier(channel, level);
        return channel;
    }

    // ---- mixers and tests

    int addMixer(int carriers) {
        argument(carriers >= 0 && carriers < 1 << state.carriers.size());
        room(state.mixers.size() < 5);
        save();
        state.mixers.add(carriers);
        state.tests.clear();
        return state.mixers.size() - 1;
    }

    int setMember(int mixer, int carrier, boolean member) {
        index(mixer, state.mixers.size());
        index(carrier, state.carriers.size());
        save();
        int set = state.mixers.get(mixer);
        boolean isMember = (set & 1 << carrier) != 0;
        if (isMember != member) {
            set ^= 1 << carrier;
        }
        state.mixers.set(mixer, set);
        state.tests.clear();
        return set;
    }

    int mixer(int mixer) {
        index(mixer, state.mixers.size());
        return state.mixers.get(mixer);
    }

    int addTest(int active, int channel, boolean heard) {
        argument(active >= 0 && active < 1 << state.carriers.size() && channel >= 0 && channel <= 63);
        room(state.tests.size() < 16);
        save();
        state.tests.add(new int[] {active, channel, heard ? 1 : 0});
        return diagnoses();
    }

    int test(int test, int what) {
        index(test, state.tests.size());
        argument(what >= 0 && what <= 2);
        return state.tests.get(test)[what];
    }

    int heard(int active, int channel) {
        argument(active >= 0 && active < 1 << state.carriers.size() && channel >= 0 && channel <= 63);
        int set = 0;
        for (int m = 0; m < state.mixers.size(); m++) {
            if (isHeard(1 << m, active, channel)) {
                set |= 1 << m;
            }
        }
        return set;
    }

    int diagnoses() {
        return allDiagnoses().size();
    }

    int diagnosis() {
        int best = -1;
        for (int d : allDiagnoses()) {
            if (best < 0 || Integer.bitCount(d) < Integer.bitCount(best)
                    || Integer.bitCount(d) == Integer.bitCount(best) && d < best) {
                best = d;
            }
        }
        return best;
    }

    int certain(boolean bad) {
        int set = 0;
        for (int m = 0; m < state.mixers.size(); m++) {
            boolean always = true;
            for (int d : allDiagnoses()) {
                always &= ((d & 1 << m) != 0) == bad;
            }
            if (always) {
                set |= 1 << m;
            }
        }
        return set;
    }

    int bestTest(int active) {
        argument(active >= 0 && active < 1 << state.carriers.size());
        int best = -1;
        int bestWorst = 1000;
        List<Integer> now = allDiagnoses();
        for (int channel = 0; channel < 64; channel++) {
            int withSound = 0;
            int mixers = heard(active, channel);
            for (int d : now) {
                if ((d & mixers) != 0) {
                    withSound++;
                }
            }
            int worst = Math.max(withSound, now.size() - withSound);
            if (worst < bestWorst) {
                bestWorst = worst;
                best = channel;
            }
        }
        return best;
    }

    // ---- text

    int append(int value) {
        argument(value >= 0 && value <= 127);
        room(text.length() < 120);
        text.append((char) value);
        return text.length();
    }

    int clearText() {
        int before = text.length();
        text.setLength(0);
        return before;
    }

    int parse() {
        State next = state.copy();
        next.carriers.clear();
        next.mixers.clear();
        next.tests.clear();
        int answer = walk(next);
        if (answer >= 0) {
            save();
            state = next;
        }
        return answer;
    }

    /** A walk through the bytes and the end of the text; wanted tells what stands there: i, c, l (level), m. */
    private int walk(State next) {
        char wanted = 'i';
        int items = 0;
        int digits = 0;
        int value = 0;
        int start = 0;
        int channel = 0;
        int members = 0;
        for (int i = 0; i <= text.length(); i++) {
            char sign = i < text.length() ? text.charAt(i) : (char) 200;
            if (wanted == 'i') {
                if (i == text.length()) {
                    return items;
                }
                boolean can = sign == 'c' ? next.carriers.size() < 10 : sign == 'm' && next.mixers.size() < 5;
                if (!can) {
                    return -10 - i;
                }
                wanted = sign;
                digits = 0;
                value = 0;
                members = 0;
                continue;
            }
            if (sign >= '0' && sign <= '9') {
                if (digits == 2) {
                    return -10 - i;
                }
                if (digits == 0) {
                    start = i;
                }
                digits++;
                value = value * 10 + (sign - '0');
                continue;
            }
            if (digits == 0) {
                return -10 - i;
            }
            if (wanted == 'c') {
                for (Carrier c : next.carriers) {
                    if (c.channel == value) {
                        return -10 - start;
                    }
                }
                if (value > 63) {
                    return -10 - start;
                }
                if (sign != ',') {
                    return -10 - i;
                }
                channel = value;
                wanted = 'l';
            } else if (wanted == 'l') {
                if (value > 60) {
                    return -10 - start;
                }
                if (sign != ';') {
                    return -10 - i;
                }
                next.carriers.add(new Carrier(channel, value));
                items++;
                wanted = 'i';
            } else {
                if (value >= next.carriers.size() || (members & 1 << value) != 0) {
                    return -10 - start;
                }
                members |= 1 << value;
                if (sign == ';') {
                    next.mixers.add(members);
                    items++;
                    wanted = 'i';
                } else if (sign != ',') {
                    return -10 - i;
                }
            }
            digits = 0;
            value = 0;
        }
        throw new AssertionError("the end of the text always answers");
    }

    // ---- state

    int undo() {
        room(!saved.isEmpty());
        state = saved.remove(saved.size() - 1);
        return saved.size();
    }

    long digest() {
        List<Integer> values = new ArrayList<>();
        values.addAll(List.of(text.length(), state.kinds, state.loss3, state.loss5, state.guard, state.spacing));
        values.add(state.carriers.size());
        for (Carrier c : state.carriers) {
            values.addAll(List.of(c.channel, c.level));
        }
        values.addAll(List.of(products(), hits(), state.mixers.size()));
        values.addAll(state.mixers);
        values.add(state.tests.size());
        for (int[] t : state.tests) {
            values.addAll(List.of(t[0], t[1], t[2]));
        }
        values.addAll(List.of(diagnoses(), diagnosis(), saved.size()));
        long h = 3067;
        for (int v : values) {
            h = 31 * h + v;
        }
        return h;
    }

    // ---- what the calls share

    private static void argument(boolean right) {
        if (!right) {
            throw new IllegalArgumentException();
        }
    }

    private static void room(boolean right) {
        if (!right) {
            throw new IllegalStateException();
        }
    }

    private static void index(int index, int size) {
        if (index < 0 || index >= size) {
            throw new IndexOutOfBoundsException();
        }
    }

    private void save() {
        saved.add(state.copy());
        if (saved.size() > 4) {
            saved.remove(0);
        }
    }

    private int owner(int channel) {
        for (int i = 0; i < state.carriers.size(); i++) {
            if (state.carriers.get(i).channel == channel) {
                return i;
            }
        }
        return -1;
    }

    private static int distance(int one, int other) {
        return one > other ? one - other : other - one;
    }

    private List<Product> productsOf(List<Carrier> list) {
        List<Product> all = new ArrayList<>();
        for (int a = 0; a < list.size(); a++) {
            for (int b = 0; b < list.size(); b++) {
                if (a == b) {
                    continue;
                }
                Carrier x = list.get(a);
                Carrier y = list.get(b);
                take(all, 0, a, b, -1, 2 * x.channel - y.channel, 2 * x.level + y.level - state.loss3);
                take(all, 2, a, b, -1, 3 * x.channel - 2 * y.channel, 3 * x.level + 2 * y.level - state.loss5);
                for (int c = 0; c < list.size(); c++) {
                    Carrier z = list.get(c);
                    if (a < b && c != a && c != b) {
                        take(all, 1, a, b, c, x.channel + y.channel - z.channel,
                                x.level + y.level + z.level - state.loss3);
                    }
                }
            }
        }
        Comparator<Product> order = Comparator.comparingInt(p -> p.facts[0]);
        for (int i = 1; i <= 3; i++) {
            int fact = i;
            order = order.thenComparingInt(p -> p.facts[fact]);
        }
        all.sort(order);
        return all;
    }

    private void take(List<Product> all, int kind, int a, int b, int c, int channel, int level) {
        boolean isOn = (state.kinds >> kind) % 2 == 1;
        if (isOn && level >= 0 && channel >= 0 && channel <= 63) {
            all.add(new Product(kind, a, b, c, channel, level));
        }
    }

    private int hitsAmong(List<Carrier> list) {
        int count = 0;
        for (Product p : productsOf(list)) {
            for (Carrier c : list) {
                if (distance(p.facts[4], c.channel) <= state.guard) {
                    count++;
                }
            }
        }
        return count;
    }

    private boolean clean(List<Carrier> list) {
        for (int i = 0; i < list.size(); i++) {
            for (int j = 0; j < i; j++) {
                if (distance(list.get(i).channel, list.get(j).channel) < state.spacing) {
                    return false;
                }
            }
        }
        return hitsAmong(list) == 0;
    }

    private List<Carrier> without(int set) {
        List<Carrier> rest = new ArrayList<>();
        for (int i = 0; i < state.carriers.size(); i++) {
            if ((set & 1 << i) == 0) {
                rest.add(state.carriers.get(i));
            }
        }
        return rest;
    }

    private boolean isHeard(int bad, int active, int channel) {
        for (Product p : productsOf(state.carriers)) {
            for (int m = 0; m < state.mixers.size(); m++) {
                boolean makes = (p.parts & ~(state.mixers.get(m) & active)) == 0 && p.facts[4] == channel;
                if ((bad & 1 << m) != 0 && makes) {
                    return true;
                }
            }
        }
        return false;
    }

    private List<Integer> allDiagnoses() {
        int[] audible = new int[state.tests.size()];
        for (int t = 0; t < audible.length; t++) {
            audible[t] = heard(state.tests.get(t)[0], state.tests.get(t)[1]);
        }
        List<Integer> all = new ArrayList<>();
        for (int bad = 0; bad < 1 << state.mixers.size(); bad++) {
            boolean fits = true;
            for (int t = 0; t < audible.length; t++) {
                fits &= ((bad & audible[t]) != 0) == (state.tests.get(t)[2] == 1);
            }
            if (fits) {
                all.add(bad);
            }
        }
        return all;
    }

    /** The rulers with a span as bit sets, the lexicographically first one first; only that one if asked. */
    private List<Long> rulersOf(int marks, int span, boolean onlyFirst) {
        List<Long> found = new ArrayList<>();
        int[] channels = new int[marks];
        channels[marks - 1] = span;
        if (marks > 1 || span == 0) {
            tryMarks(channels, 1, found, onlyFirst);
        }
        return found;
    }

    private void tryMarks(int[] channels, int at, List<Long> found, boolean onlyFirst) {
        if (onlyFirst && !found.isEmpty()) {
            return;
        }
        int last = channels.length - 1;
        if (at < last) {
            for (int mark = channels[at - 1] + 1; mark < channels[last]; mark++) {
                channels[at] = mark;
                tryMarks(channels, at + 1, found, onlyFirst);
            }
            return;
        }
        if (at == last && channels[last] <= channels[last - 1]) {
            return;
        }
        if (isRuler(channels)) {
            long set = 0;
            for (int mark : channels) {
                set |= 1L << mark;
            }
            found.add(set);
        }
    }

    /** As clean() with the level 60 at each channel, without objects, as it is asked for some 100,000 sets. */
    private boolean isRuler(int[] m) {
        boolean third = 3 * 60 >= state.loss3;
        for (int a = 0; a < m.length; a++) {
            for (int b = 0; b < m.length; b++) {
                if (a == b) {
                    continue;
                }
                if (distance(m[a], m[b]) < state.spacing) {
                    return false;
                }
                if (third && state.kinds % 2 == 1 && hitsAny(m, 2 * m[a] - m[b])) {
                    return false;
                }
                if (state.kinds >= 4 && 5 * 60 >= state.loss5 && hitsAny(m, 3 * m[a] - 2 * m[b])) {
                    return false;
                }
                for (int c = 0; c < m.length && third && state.kinds / 2 % 2 == 1; c++) {
                    if (c != a && c != b && hitsAny(m, m[a] + m[b] - m[c])) {
                        return false;
                    }
                }
            }
        }
        return true;
    }

    private boolean hitsAny(int[] marks, int channel) {
        for (int mark : marks) {
            if (channel >= 0 && channel <= 63 && distance(mark, channel) <= state.guard) {
                return true;
            }
        }
        return false;
    }
}
