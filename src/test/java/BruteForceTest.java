import java.util.ArrayList;
import java.util.Arrays;
import java.util.List;
import java.util.Random;
import java.util.regex.Matcher;
import java.util.regex.Pattern;

/** Random runs of calls against a plain model that counts out by hand what the class takes short ways to. */
public final class BruteForceTest {
    private static final int RUNS = 1200;
    private static final int CALLS = 200;

    public static void main(String[] args) {
        int wrong = 0;
        for (int seed = 1; seed <= RUNS && wrong < 20; seed++) {
            wrong += run(seed);
        }
        System.out.println(wrong == 0 ? "the class answers as the model" : wrong + " answers differ from the model's");
        if (wrong != 0) {
            System.exit(1);
        }
    }

    private static int run(int seed) {
        Random random = new Random(seed);
        ThatchNext tested = new ThatchNext();
        Model model = new Model();
        List<String> told = new ArrayList<>();
        int calls = 0;
        while (calls < CALLS) {
            Call call = calls < 3 || random.nextInt(40) == 0 ? new Call("text", random) : new Call(random);
            told.add(call.toString());
            long[] got = call.on(tested);
            long[] due = call.on(model);
            calls += got.length;
            if (!Arrays.equals(got, due) || !Arrays.equals(state(tested), state(model))) {
                System.out.println("run " + seed + ": " + call + " answered " + Arrays.toString(got)
                    + ", the model " + Arrays.toString(due) + ", behind " + told);
                System.out.println(Arrays.toString(state(tested)));
                System.out.println(Arrays.toString(state(model)));
                return 1;
            }
        }
        return 0;
    }

    private static long[] state(ThatchNext x) {
        long[] state = new long[700];
        int i = 0;
        for (int what = -1; what <= 14; what++) {
            state[i++] = x.count(what);
        }
        state[i++] = x.fault(0);
        state[i++] = x.fault(1);
        for (int r = 0; r < 10; r++) {
            for (int what = 0; what < 8; what++) {
                state[i++] = x.roof(r, what);
            }
            for (int d = 0; d < 6 && d < x.roof(r, 0); d++) {
                for (int what = 0; what < 7; what++) {
                    state[i++] = x.layer(r, d, what);
                }
            }
        }
        return state;
    }

    private static long[] state(Model x) {
        long[] state = new long[700];
        int i = 0;
        for (int what = -1; what <= 14; what++) {
            state[i++] = x.count(what);
        }
        state[i++] = x.fault;
        state[i++] = x.faultPlace;
        for (int r = 0; r < 10; r++) {
            for (int what = 0; what < 8; what++) {
                state[i++] = x.roof(r, what);
            }
            for (int d = 0; d < 6 && d < x.roof(r, 0); d++) {
                for (int what = 0; what < 7; what++) {
                    state[i++] = x.layer(r, d, what);
                }
            }
        }
        return state;
    }

    /** One call with its arguments, or a whole text fed and read. */
    private static final class Call {
        private static final String[] NAMES = {
            "roof", "layer", "year", "year", "year", "rain", "judge", "perform", "drawn", "leaks", "leaksIn", "spread",
            "mend", "slate", "burn", "harm", "may", "laziest", "harms", "dry", "cat", "mice", "miceIn", "cats", "spark",
            "sparkIn", "odds", "outOf", "open", "order", "wetted", "past", "past", "sure", "causes", "look", "numbers",
            "write", "write", "copy", "image", "restore", "orderRow", "setsRow", "row", "sparkIn", "odds", "cats"
        };
        private static final String[] WORDS = {
            "roof", "slate", "ring", "deep", "reed", "odds", "straw", "wet", "mice", "spark", ";", "7", "1234", "barn", ","
        };
        final String name;
        final int a;
        final int b;
        final int c;
        final long v;
        final String text;

        Call(Random random) {
            this(NAMES[random.nextInt(NAMES.length)], random);
        }

        Call(String name, Random random) {
            this.name = name;
            boolean wild = random.nextInt(25) == 0;
            a = wild ? random.nextInt() : random.nextInt(name.equals("year") || name.equals("harm")
                || name.equals("harms") || name.equals("causes") ? 32 : 6) - (random.nextInt(12) == 0 ? 1 : 0);
            b = name.equals("dry") || name.equals("order") ? new int[] {0, 10, 11, 12, 13, 14, 19, 20, 1}[random.nextInt(9)]
                : random.nextInt(25) == 0 ? random.nextInt() : random.nextInt(7) - (random.nextInt(12) == 0 ? 1 : 0);
            c = random.nextInt(25) == 0 ? random.nextInt() : random.nextInt(7);
            v = random.nextInt(8) == 0 ? random.nextLong() : random.nextInt(2) == 0 ? random.nextInt(16) : 0;
            text = name.equals("text") ? rowText(random) : "";
        }

        private static String rowText(Random random) {
            StringBuilder text = new StringBuilder();
            boolean small = random.nextInt(3) > 0;
            int deep = 3;
            if (random.nextBoolean()) {
                deep = 1 + random.nextInt(6);
                text.append("deep ").append(deep).append(";");
            }
            if (random.nextBoolean()) {
                text.append("ring ;\n");
            }
            if (random.nextBoolean()) {
                text.append("reed ").append(1 + random.nextInt(8)).append(' ').append(1 + random.nextInt(5)).append(";");
            }
            if (random.nextBoolean()) {
                text.append("odds ").append(2 + random.nextInt(5)).append(";");
            }
            int roofs = random.nextInt(small ? 5 : 11);
            for (int r = 0; r < roofs; r++) {
                text.append("roof");
                if (random.nextInt(8) == 0) {
                    text.append(" slate;");
                    continue;
                }
                int layers = random.nextInt(deep + 1);
                for (int d = 0; d < layers && text.length() < 800; d++) {
                    text.append(random.nextBoolean() ? " reed " : " straw").append(random.nextInt(random.nextInt(9) == 0 ? 100 : 11));
                    text.append(random.nextInt(4) == 0 ? " wet" : "");
                    text.append(random.nextInt(5) == 0 ? " mice " + (1 + random.nextInt(60)) : "");
                    text.append(random.nextInt(8) == 0 ? " spark" : "");
                }
                text.append(";");
            }
            if (random.nextInt(5) == 0 && text.length() > 0) {
                int at = random.nextInt(text.length() + 1);
                text.insert(at, " " + WORDS[random.nextInt(WORDS.length)] + (random.nextBoolean() ? " " : ""));
            }
            if (random.nextInt(12) == 0 && text.length() > 0) {
                text.deleteCharAt(random.nextInt(text.length()));
            }
            return text.length() > 900 ? text.substring(0, 900) : text.toString();
        }

        long[] on(ThatchNext x) {
            switch (name) {
                case "text": return tell(x);
                case "row": return one(x.row(a));
                case "roof": return one(x.roof(a, b));
                case "layer": return one(x.layer(a, b, c));
                case "year": return one(x.year(a));
                case "rain": return one(x.rain());
                case "judge": return one(x.judge(a, b));
                case "perform": return one(x.perform(a));
                case "drawn": return one(x.drawn(c * 977 + b, a));
                case "leaks": return one(x.leaks());
                case "leaksIn": return one(x.leaksIn(a));
                case "spread": return one(x.spread(a));
                case "mend": return one(x.mend(a, b - 1));
                case "slate": return one(c == 0 ? x.slate(a) : 0);
                case "burn": return one(c == 0 ? x.burn(a) : 0);
                case "harm": return one(x.harm(a, b));
                case "may": return one(x.may(a));
                case "laziest": return one(x.laziest(a));
                case "harms": return one(x.harms(a, b, c));
                case "dry": return one(x.dry(a, b));
                case "cat": return one(x.cat(a));
                case "mice": return one(x.mice(a, b));
                case "miceIn": return one(x.miceIn(a));
                case "cats": return one(x.cats(a));
                case "spark": return one(x.spark(a));
                case "sparkIn": return one(x.sparkIn(a, b));
                case "odds": return one(x.odds(a, b));
                case "outOf": return one(x.outOf(a));
                case "open": return one(x.open(a));
                case "order": return one(x.order(a, b));
                case "wetted": return one(x.wetted(a, b));
                case "past": return one(x.past(a));
                case "sure": return one(x.sure(a, b));
                case "causes": return one(x.causes(a));
                case "look": return one(x.look());
                case "numbers": return one(x.numbers(a, b - 1, c));
                case "write": return one(x.write(a, b, v));
                case "copy": return one(x.copy(a, b));
                case "image": return one(x.image(a));
                case "restore": return one(x.restore(a));
                case "orderRow": return new long[] {x.numbers(1, 2, 3), x.write(1, 0, a), x.write(1, 1, b), x.write(1, 2, c),
                    x.wetted(0, 1), x.wetted(2, 1)};
                default: return new long[] {x.numbers(2, 1, 4), x.write(2, 0, a), x.write(2, 1, b), x.write(2, 2, c)};
            }
        }

        long[] on(Model x) {
            switch (name) {
                case "text": return new long[] {x.tell(text)};
                case "row": return one(a == 0 ? x.tell("") : -3);
                case "roof": return one(x.roof(a, b));
                case "layer": return one(x.layer(a, b, c));
                case "year": return one(x.year(a));
                case "rain": return one(x.now.rain());
                case "judge": return one(x.judge(a, b));
                case "perform": return one(x.perform(a));
                case "drawn": return one(x.drawn(c * 977 + b, a));
                case "leaks": return one(x.now.leaks());
                case "leaksIn": return one(x.leaksIn(a));
                case "spread": return one(x.spread(a));
                case "mend": return one(x.mend(a, b - 1));
                case "slate": return one(c == 0 ? x.slate(a) : 0);
                case "burn": return one(c == 0 ? x.burn(a) : 0);
                case "harm": return one(x.harm(a, b));
                case "may": return one(x.may(a));
                case "laziest": return one(x.laziest(a));
                case "harms": return one(x.harms(a, b, c));
                case "dry": return one(x.dry(a, b));
                case "cat": return one(x.cat(a));
                case "mice": return one(x.mice(a, b));
                case "miceIn": return one(x.miceIn(a));
                case "cats": return one(x.cats(a));
                case "spark": return one(x.spark(a));
                case "sparkIn": return one(x.sparkIn(a, b));
                case "odds": return one(x.odds(a, b));
                case "outOf": return one(x.outOf(a));
                case "open": return one(x.open(a));
                case "order": return one(x.order(a, b));
                case "wetted": return one(x.wetted(a, b));
                case "past": return one(x.past(a));
                case "sure": return one(x.sure(a, b));
                case "causes": return one(x.causes(a));
                case "look": return one(x.look());
                case "numbers": return one(x.numbers(a, b - 1, c));
                case "write": return one(x.write(a, b, v));
                case "copy": return one(x.copy(a, b));
                case "image": return one(x.image(a));
                case "restore": return one(x.restore(a));
                case "orderRow": return new long[] {x.numbers(1, 2, 3), x.write(1, 0, a), x.write(1, 1, b), x.write(1, 2, c),
                    x.wetted(0, 1), x.wetted(2, 1)};
                default: return new long[] {x.numbers(2, 1, 4), x.write(2, 0, a), x.write(2, 1, b), x.write(2, 2, c)};
            }
        }

        private long[] tell(ThatchNext x) {
            byte[] bytes = Arrays.copyOf(text.getBytes(), 920);
            for (int i = 0; i < text.length(); i += 20) {
                int[] ints = new int[5];
                for (int k = 0; k < 20; k++) {
                    ints[k / 4] = ints[k / 4] << 8 | bytes[i + k] & 255;
                }
                x.feed(ints[0], ints[1], ints[2], ints[3], ints[4]);
            }
            return one(x.row(text.length()));
        }

        private static long[] one(long answer) {
            return new long[] {answer};
        }

        @Override
        public String toString() {
            return name.equals("text") ? "\"" + text + "\"" : name + "(" + a + ", " + b + ", " + c + ", " + v + ")";
        }
    }

    private static final class Straw implements Cloneable {
        int age;
        int sort;
        boolean wet;
        int mice;
        boolean spark;
        int mark;
        int from = -1;

        Straw copy() {
            try {
                return (Straw) clone();
            } catch (CloneNotSupportedException e) {
                throw new IllegalStateException(e);
            }
        }
    }

    private static final class House {
        List<Straw> layers = new ArrayList<>();
        boolean slate;
        boolean cat;
        int laid;
    }

    private static final class Village {
        List<House> houses = new ArrayList<>();
        int year;
        int deep = 3;
        int[] sound = {8, 4};
        int odds = 4;
        boolean ring;
        int lines;
        Object telling = new Object();

        Village copy() {
            Village v = new Village();
            for (House h : houses) {
                House other = new House();
                other.slate = h.slate;
                other.cat = h.cat;
                other.laid = h.laid;
                for (Straw s : h.layers) {
                    other.layers.add(s.copy());
                }
                v.houses.add(other);
            }
            v.year = year;
            v.deep = deep;
            v.sound = sound.clone();
            v.odds = odds;
            v.ring = ring;
            v.lines = lines;
            v.telling = telling;
            return v;
        }

        int size() {
            return houses.size();
        }

        int giver(int r) {
            return r > 0 ? r - 1 : ring && size() > 1 ? size() - 1 : -1;
        }

        boolean sound(Straw s) {
            return s.age <= sound[s.sort];
        }

        boolean leaks(int r) {
            return !houses.get(r).slate && houses.get(r).layers.stream().noneMatch(this::sound);
        }

        int leaks() {
            int bits = 0;
            for (int r = 0; r < size(); r++) {
                bits += leaks(r) ? 1 << r : 0;
            }
            return bits;
        }

        int why(long set) {
            if (set < 0 || set >= 1L << size()) {
                return 1;
            }
            for (int r = 0; r < size(); r++) {
                if ((set >> r & 1) == 1 && houses.get(r).slate) {
                    return 2;
                }
            }
            return year == 999 ? 3 : 0;
        }

        void year(int skips) {
            Village before = copy();
            year++;
            for (int r = 0; r < size(); r++) {
                House h = houses.get(r);
                if (h.slate) {
                    continue;
                }
                List<Straw> old = new ArrayList<>();
                boolean lays = (skips >> r & 1) == 0;
                if (!lays) {
                    old.addAll(before.houses.get(r).layers);
                } else if (giver(r) >= 0 && !before.houses.get(giver(r)).slate) {
                    old.addAll(before.houses.get((skips >> giver(r) & 1) == 1 ? r : giver(r)).layers);
                }
                h.layers.clear();
                for (Straw s : old) {
                    Straw o = s.copy();
                    o.age = Math.min(99, o.age + (o.wet ? 2 : 1));
                    o.mice = h.cat ? 0 : Math.min(99, o.mice * 2);
                    h.layers.add(o);
                }
                if (lays) {
                    Straw fresh = new Straw();
                    fresh.from = r;
                    h.layers.add(0, fresh);
                    h.laid++;
                }
                while (h.layers.size() > deep) {
                    h.layers.remove(deep);
                }
            }
        }

        int rain() {
            int became = 0;
            for (House h : houses) {
                for (Straw s : h.layers) {
                    if (sound(s)) {
                        break;
                    }
                    became += s.wet ? 0 : 1;
                    s.wet = true;
                }
            }
            return became;
        }

        int laid() {
            return houses.stream().mapToInt(h -> h.laid).sum();
        }

        int mice() {
            return houses.stream().flatMap(h -> h.layers.stream()).mapToInt(s -> s.mice).sum();
        }

        List<Straw> sparks() {
            List<Straw> sparks = new ArrayList<>();
            houses.forEach(h -> h.layers.stream().filter(s -> s.spark).forEach(sparks::add));
            return sparks;
        }

        int slates() {
            int bits = 0;
            for (int r = 0; r < size(); r++) {
                bits += houses.get(r).slate ? 1 << r : 0;
            }
            return bits;
        }

        String looks() {
            StringBuilder text = new StringBuilder();
            for (House h : houses) {
                for (Straw s : h.layers) {
                    text.append(s.sort).append(':').append(s.age).append(' ');
                }
                text.append('|');
            }
            return text.toString();
        }
    }

    private static final class Model {
        Village now = new Village();
        int fault;
        int faultPlace = -1;
        final Village[] images = new Village[2];
        final long[][] rows = new long[4][];
        final int[] sorts = new int[4];

        int tell(String text) {
            Village v = new Village();
            fault = 0;
            faultPlace = -1;
            Parser parser = new Parser(text, v);
            parser.run();
            if (parser.kind != 0) {
                fault = parser.kind;
                faultPlace = parser.at;
                return -30 - fault;
            }
            now = v;
            return v.lines;
        }

        boolean bad(int r) {
            return r < 0 || r >= now.size();
        }

        House house(int r) {
            return now.houses.get(r);
        }

        int roof(int r, int what) {
            if (bad(r)) {
                return -2;
            }
            House h = house(r);
            switch (what) {
                case 0: return h.layers.size();
                case 1: return h.slate ? 1 : 0;
                case 2: return now.giver(r);
                case 3: return now.leaks(r) ? 1 : 0;
                case 4: return (int) h.layers.stream().filter(now::sound).count();
                case 5: return h.layers.stream().mapToInt(s -> s.mice).sum();
                case 6: return h.cat ? 1 : 0;
                case 7: return h.laid;
                default: return -2;
            }
        }

        int layer(int r, int d, int what) {
            if (bad(r) || what < 0 || what > 6) {
                return -2;
            }
            if (d < 0 || d >= house(r).layers.size()) {
                return -5;
            }
            Straw s = house(r).layers.get(d);
            return new int[] {s.age, s.sort, s.wet ? 1 : 0, s.mice, s.spark ? 1 : 0, s.from, now.sound(s) ? 1 : 0}[what];
        }

        int year(int skips) {
            int why = now.why(skips);
            if (why != 0) {
                return why == 3 ? -5 : -3;
            }
            now.year(skips);
            return now.leaks();
        }

        int judge(int row, int what) {
            if (row < 0 || row > 3 || what < 0 || what > 3) {
                return -2;
            }
            if (rows[row] == null) {
                return -6;
            }
            Village v = now.copy();
            for (int i = 0; i < rows[row].length; i++) {
                int why = v.why(rows[row][i]);
                if (why != 0) {
                    return new int[] {i, why, v.leaks(), v.laid() - now.laid()}[what];
                }
                v.year((int) rows[row][i]);
            }
            return new int[] {-1, 0, v.leaks(), v.laid() - now.laid()}[what];
        }

        int perform(int row) {
            if (row < 0 || row > 3) {
                return -2;
            }
            if (rows[row] == null) {
                return -6;
            }
            int done = 0;
            for (long set : rows[row]) {
                if (now.why(set) != 0) {
                    break;
                }
                now.year((int) set);
                done++;
            }
            return done;
        }

        int drawn(int seed, int years) {
            if (years < 1 || years > 30) {
                return -3;
            }
            if (now.year + years > 999) {
                return -5;
            }
            int x = seed;
            int wet = 0;
            for (int y = 0; y < years; y++) {
                int skips = 0;
                for (int r = 0; r < now.size(); r++) {
                    if (!house(r).slate) {
                        x = 1103515245 * x + 12345;
                        skips += (x >>> 16) % 4 == 0 ? 1 << r : 0;
                    }
                }
                now.year(skips);
                x = 1103515245 * x + 12345;
                if ((x >>> 16) % 2 == 1) {
                    wet += now.rain();
                }
            }
            return wet;
        }

        int leaksIn(int r) {
            if (bad(r)) {
                return -2;
            }
            Village v = now.copy();
            for (int y = 0; y <= 99; y++) {
                if (v.leaks(r)) {
                    return y;
                }
                v.year(0);
                v.rain();
            }
            return -1;
        }

        int spread(int r) {
            if (bad(r)) {
                return -2;
            }
            int bits = 0;
            for (int i = 0; i < now.size(); i++) {
                bits += house(i).layers.stream().anyMatch(s -> s.from == r) ? 1 << i : 0;
            }
            return bits;
        }

        int mend(int r, int sort) {
            if (bad(r) || sort < 0 || sort > 1) {
                return -2;
            }
            if (house(r).slate) {
                return -5;
            }
            int old = house(r).layers.isEmpty() ? -1 : house(r).layers.remove(0).age;
            Straw fresh = new Straw();
            fresh.sort = sort;
            fresh.from = r;
            house(r).layers.add(0, fresh);
            house(r).laid++;
            return old;
        }

        int slate(int r) {
            if (bad(r)) {
                return -2;
            }
            if (house(r).slate) {
                return -5;
            }
            int gone = house(r).layers.size();
            house(r).slate = true;
            house(r).layers.clear();
            return gone;
        }

        int burn(int r) {
            if (bad(r)) {
                return -2;
            }
            if (house(r).slate) {
                return -5;
            }
            int gone = (int) house(r).layers.stream().filter(s -> s.spark).count();
            house(r).layers.clear();
            return gone;
        }

        int leakCount(int watched, int set, int n) {
            Village v = now.copy();
            int leaks = 0;
            for (int y = 0; y < n; y++) {
                v.year(y == 0 ? set : 0);
                v.rain();
                leaks += Integer.bitCount(v.leaks() & watched);
            }
            return leaks;
        }

        int harm(int set, int n) {
            int why = now.why(set);
            if (why == 1 || why == 2 || n < 1 || n > 12) {
                return -3;
            }
            return leakCount(-1, set, n) - leakCount(-1, 0, n);
        }

        int may(int n) {
            if (n < 1 || n > 12) {
                return -3;
            }
            int bits = 0;
            for (int r = 0; r < now.size(); r++) {
                bits += !house(r).slate && harm(1 << r, n) <= 0 ? 1 << r : 0;
            }
            return bits;
        }

        int laziest(int n) {
            if (n < 1 || n > 12) {
                return -3;
            }
            int best = 0;
            for (int set = 0; set < 1 << now.size(); set++) {
                if ((set & now.slates()) == 0 && Integer.bitCount(set) > Integer.bitCount(best) && harm(set, n) <= 0) {
                    best = set;
                }
            }
            return best;
        }

        int harms(int set, int r, int n) {
            if (bad(r)) {
                return -2;
            }
            int why = now.why(set);
            if (why == 1 || why == 2 || n < 1 || n > 12) {
                return -3;
            }
            return leakCount(1 << r, set, n) - leakCount(1 << r, 0, n);
        }

        int dry(int n, int what) {
            if (what != 0 && (what < 10 || what > 13)) {
                return -2;
            }
            if (n < 1 || n > 4) {
                return -3;
            }
            if (now.size() > 4) {
                return -4;
            }
            List<int[]> rowsOfSets = new ArrayList<>();
            // The model keeps the dry rows that were found a year earlier, so it need not try all anew.
            List<Village> reached = new ArrayList<>(List.of(now));
            rowsOfSets.add(new int[0]);
            for (int y = 0; y < n; y++) {
                List<int[]> longer = new ArrayList<>();
                List<Village> then = new ArrayList<>();
                for (int i = 0; i < reached.size(); i++) {
                    for (int set = 0; set < 1 << now.size(); set++) {
                        if ((set & now.slates()) != 0) {
                            continue;
                        }
                        Village v = reached.get(i).copy();
                        v.year(set);
                        v.rain();
                        if (v.leaks() == 0) {
                            int[] row = Arrays.copyOf(rowsOfSets.get(i), y + 1);
                            row[y] = set;
                            longer.add(row);
                            then.add(v);
                        }
                    }
                }
                rowsOfSets = longer;
                reached = then;
            }
            int best = -1;
            for (int i = 0; i < reached.size(); i++) {
                if (best < 0 || reached.get(i).laid() < reached.get(best).laid()) {
                    best = i;
                }
            }
            if (best < 0) {
                return -1;
            }
            return what == 0 ? reached.get(best).laid() - now.laid() : what - 10 < n ? rowsOfSets.get(best)[what - 10] : -1;
        }

        int cat(int r) {
            if (bad(r)) {
                return -2;
            }
            if (house(r).slate) {
                return -5;
            }
            house(r).cat = !house(r).cat;
            return house(r).cat ? 1 : 0;
        }

        int mice(int r, int n) {
            if (bad(r)) {
                return -2;
            }
            if (n < 1 || n > 99) {
                return -3;
            }
            if (house(r).layers.isEmpty()) {
                return -5;
            }
            Straw top = house(r).layers.get(0);
            top.mice = Math.min(99, top.mice + n);
            return top.mice;
        }

        int miceIn(int n) {
            if (n < 0 || n > 30) {
                return -3;
            }
            Village v = now.copy();
            for (int y = 0; y < n; y++) {
                v.year(0);
            }
            return v.mice();
        }

        int cats(int n) {
            if (n < 1 || n > 8) {
                return -3;
            }
            int best = -1;
            for (int set = 0; set < 1 << now.size(); set++) {
                if ((set & now.slates()) != 0 || best >= 0 && Integer.bitCount(best) <= Integer.bitCount(set)) {
                    continue;
                }
                Village v = now.copy();
                for (int r = 0; r < v.size(); r++) {
                    v.houses.get(r).cat = (set >> r & 1) == 1;
                }
                for (int y = 0; y < n; y++) {
                    v.year(0);
                }
                if (v.mice() == 0) {
                    best = set;
                }
            }
            return best;
        }

        int spark(int r) {
            if (bad(r)) {
                return -2;
            }
            if (house(r).layers.isEmpty() || house(r).layers.get(0).spark) {
                return -5;
            }
            house(r).layers.get(0).spark = true;
            return now.sparks().size();
        }

        /** The roof that holds a marked layer year by year, none skipping; -1 where it is no more. */
        int[] way(int k, int n) {
            Village v = now.copy();
            v.sparks().get(k).mark = 1;
            int[] places = new int[n + 1];
            for (int y = 0; y <= n; y++) {
                places[y] = -1;
                for (int r = 0; r < v.size(); r++) {
                    for (int d = 0; d < v.houses.get(r).layers.size(); d++) {
                        places[y] = v.houses.get(r).layers.get(d).mark == 1 ? 10 * r + d : places[y];
                    }
                }
                v.year(0);
            }
            return places;
        }

        int sparkIn(int k, int n) {
            if (k < 0 || k >= now.sparks().size()) {
                return -2;
            }
            return n < 0 || n > 30 ? -3 : way(k, n)[n];
        }

        /** By all cases of all sparks in one great number; sparks that can't come to the roof free where those are too many. */
        long odds(int r, int n) {
            if (bad(r)) {
                return -2;
            }
            long all = outOf(n);
            if (all < 0) {
                return all;
            }
            int sparks = now.sparks().size();
            int[][] ways = new int[sparks][];
            for (int k = 0; k < sparks; k++) {
                ways[k] = way(k, n);
            }
            if (all > 5000) {
                return all - spared(ways, r, n, 0);
            }
            long burns = 0;
            for (long caseNumber = 0; caseNumber < all; caseNumber++) {
                long rest = caseNumber;
                boolean burnt = false;
                for (int[] way : ways) {
                    boolean alive = true;
                    for (int y = 1; y <= n; y++) {
                        boolean strikes = rest % now.odds == 0;
                        rest /= now.odds;
                        if (alive && strikes) {
                            alive = false;
                            burnt |= way[y] >= 0 && way[y] / 10 == r;
                        }
                    }
                }
                burns += burnt ? 1 : 0;
            }
            return burns;
        }

        long spared(int[][] ways, int r, int n, int k) {
            if (k == ways.length) {
                return 1;
            }
            return sparedFrom(ways[k], r, n, 1) * spared(ways, r, n, k + 1);
        }

        long sparedFrom(int[] way, int r, int n, int y) {
            if (y > n) {
                return 1;
            }
            long rest = 1;
            for (int i = y + 1; i <= n; i++) {
                rest *= now.odds;
            }
            boolean here = way[y] >= 0 && way[y] / 10 == r;
            return (here ? 0 : rest) + (now.odds - 1) * sparedFrom(way, r, n, y + 1);
        }

        long outOf(int n) {
            if (n < 1 || n > 6) {
                return -3;
            }
            if (now.sparks().size() > 3) {
                return -4;
            }
            long all = 1;
            for (int i = 0; i < n * now.sparks().size(); i++) {
                all *= now.odds;
            }
            return all;
        }

        int open(int n) {
            if (outOf(n) < 0) {
                return (int) outOf(n);
            }
            int best = -1;
            long most = 0;
            for (int r = 0; r < now.size(); r++) {
                if (odds(r, n) > most) {
                    most = odds(r, n);
                    best = r;
                }
            }
            return best;
        }

        List<Integer> thatched() {
            List<Integer> roofs = new ArrayList<>();
            for (int r = 0; r < now.size(); r++) {
                if (!house(r).slate) {
                    roofs.add(r);
                }
            }
            return roofs;
        }

        int wet(long[] weeks, List<Integer> order) {
            int wet = 0;
            for (int w = 0; w < weeks.length; w++) {
                for (int p = 0; weeks[w] != 0 && p < order.size(); p++) {
                    wet += p == w || p > w && now.leaks(order.get(p)) ? 1 : 0;
                }
            }
            return wet;
        }

        int order(int row, int what) {
            if (row < 0 || row > 3 || what != 0 && (what < 10 || what > 19)) {
                return -2;
            }
            if (rows[row] == null) {
                return -6;
            }
            if (rows[row].length > 12 || thatched().size() > 7) {
                return -4;
            }
            List<Integer> best = new ArrayList<>(thatched());
            permute(rows[row], new ArrayList<>(), thatched(), best);
            return what == 0 ? wet(rows[row], best) : what - 10 < best.size() ? best.get(what - 10) : -1;
        }

        void permute(long[] weeks, List<Integer> begun, List<Integer> left, List<Integer> best) {
            if (left.isEmpty()) {
                if (wet(weeks, begun) < wet(weeks, best)) {
                    best.clear();
                    best.addAll(begun);
                }
                return;
            }
            for (Integer r : left) {
                List<Integer> more = new ArrayList<>(begun);
                List<Integer> rest = new ArrayList<>(left);
                more.add(r);
                rest.remove(r);
                permute(weeks, more, rest, best);
            }
        }

        int wetted(int row, int order) {
            if (row < 0 || row > 3 || order < 0 || order > 3) {
                return -2;
            }
            if (rows[row] == null || rows[order] == null) {
                return -6;
            }
            if (rows[row].length > 12 || thatched().size() > 7) {
                return -4;
            }
            List<Integer> told = new ArrayList<>();
            for (long r : rows[order]) {
                told.add(r == (int) r ? (int) r : -1);
            }
            List<Integer> sorted = new ArrayList<>(told);
            sorted.sort(null);
            return sorted.equals(thatched()) ? wet(rows[row], told) : -3;
        }

        List<int[]> pasts(int m) {
            List<int[]> pasts = new ArrayList<>();
            int size = now.size();
            for (int code = 0; code < 1 << size * m; code++) {
                Village v = images[0].copy();
                int[] sets = new int[m];
                boolean can = true;
                for (int y = 0; y < m && can; y++) {
                    sets[y] = code >> size * y & (1 << size) - 1;
                    can = (sets[y] & v.slates()) == 0;
                    if (can) {
                        v.year(sets[y]);
                    }
                }
                if (can && v.looks().equals(now.looks())) {
                    pasts.add(sets);
                }
            }
            return pasts;
        }

        int noPast() {
            if (images[0] == null || images[0].telling != now.telling) {
                return -5;
            }
            return now.size() > 4 ? -4 : 0;
        }

        int past(int m) {
            if (m < 1 || m > 3) {
                return -3;
            }
            return noPast() != 0 ? noPast() : pasts(m).size();
        }

        int sure(int m, int k) {
            if (m < 1 || m > 3 || k < 0 || k >= m) {
                return -3;
            }
            if (noPast() != 0) {
                return noPast();
            }
            List<int[]> pasts = pasts(m);
            int bits = pasts.isEmpty() ? 0 : -1;
            for (int[] sets : pasts) {
                bits &= sets[k];
            }
            return bits;
        }

        boolean lies(int f, int r) {
            return house(r).layers.stream().anyMatch(s -> s.from == f && !now.sound(s));
        }

        int causes(int set) {
            if (set < 0 || set >= 1 << now.size()) {
                return -3;
            }
            int bits = 0;
            for (int f = 0; f < now.size(); f++) {
                boolean all = true;
                for (int r = 0; r < now.size(); r++) {
                    all &= (set >> r & 1) == 0 || lies(f, r);
                }
                bits += all ? 1 << f : 0;
            }
            return bits;
        }

        int look() {
            List<Integer> might = new ArrayList<>();
            for (int f = 0; f < now.size(); f++) {
                for (int r = 0; r < now.size(); r++) {
                    if (lies(f, r) && !might.contains(f)) {
                        might.add(f);
                    }
                }
            }
            if (might.size() < 2) {
                return -1;
            }
            int best = -1;
            int fewest = Integer.MAX_VALUE;
            for (int r = 0; r < now.size(); r++) {
                int there = 0;
                for (int f : might) {
                    there += lies(f, r) ? 1 : 0;
                }
                if (Math.max(there, might.size() - there) < fewest) {
                    fewest = Math.max(there, might.size() - there);
                    best = r;
                }
            }
            return best;
        }

        int numbers(int row, int sort, int n) {
            if (row < 0 || row > 3 || sort < 0 || sort > 3) {
                return -2;
            }
            if (n < 0 || n > 40) {
                return -3;
            }
            rows[row] = new long[n];
            sorts[row] = sort;
            return 0;
        }

        long write(int row, int i, long v) {
            if (row < 0 || row > 3) {
                return -2;
            }
            if (rows[row] == null) {
                return -6;
            }
            if (i < 0 || i >= rows[row].length) {
                return -7;
            }
            int cut = 64 - (8 << sorts[row]);
            return rows[row][i] = v << cut >> cut;
        }

        int copy(int r, int row) {
            if (bad(r) || row < 0 || row > 3) {
                return -2;
            }
            if (rows[row] == null) {
                return -6;
            }
            int i = 0;
            for (; i < rows[row].length && i < house(r).layers.size(); i++) {
                rows[row][i] = house(r).layers.get(i).age;
            }
            return i;
        }

        int image(int i) {
            if (i < 0 || i > 1) {
                return -2;
            }
            images[i] = now.copy();
            return 0;
        }

        int restore(int i) {
            if (i < 0 || i > 1) {
                return -2;
            }
            if (images[i] == null) {
                return -5;
            }
            now = images[i].copy();
            return 0;
        }

        int count(int what) {
            switch (what) {
                case 0: return now.size();
                case 1: return now.year;
                case 2: return now.deep;
                case 3: return now.sound[0];
                case 4: return now.sound[1];
                case 5: return now.odds;
                case 6: return now.houses.stream().mapToInt(h -> h.layers.size()).sum();
                case 7: return now.sparks().size();
                case 8: return now.mice();
                case 9: return now.laid();
                case 10: return now.ring ? 1 : 0;
                case 11: return 0;
                case 12: return now.lines;
                case 13: return (int) now.houses.stream().flatMap(h -> h.layers.stream()).filter(s -> s.wet).count();
                default: return -1;
            }
        }
    }

    /** Splits by a pattern and walks the tokens as a machine of states. */
    private static final class Parser {
        private static final Pattern TOKEN = Pattern.compile("[a-z]+|[0-9]+|;");
        final String text;
        final Village village;
        int kind;
        int at;
        private int place;

        Parser(String text, Village village) {
            this.text = text;
            this.village = village;
        }

        void run() {
            String state = "line";
            House house = null;
            Straw straw = null;
            while (true) {
                while (place < text.length() && (text.charAt(place) == ' ' || text.charAt(place) == '\n')) {
                    place++;
                }
                at = place;
                if (place == text.length()) {
                    kind = state.equals("line") ? 0 : 2;
                    return;
                }
                Matcher matcher = TOKEN.matcher(text).region(place, text.length());
                if (!matcher.lookingAt() || matcher.group().matches("[0-9]{4,}")) {
                    kind = 1;
                    return;
                }
                String token = matcher.group();
                place = matcher.end();
                boolean number = token.matches("[0-9]+");
                int n = number ? Integer.parseInt(token) : -1;
                int low = 0;
                int high = 999;
                String then = null;
                switch (state + " " + (number ? "N" : token)) {
                    case "line roof":
                        if (village.size() == 10) {
                            kind = 4;
                            return;
                        }
                        house = new House();
                        village.houses.add(house);
                        then = "roof";
                        break;
                    case "line ring": village.ring = true; then = "end"; break;
                    case "line deep": then = village.size() == 0 ? "deep" : null; break;
                    case "line reed": then = "years of reed"; break;
                    case "line odds": then = "odds"; break;
                    case "deep N": village.deep = n; low = 1; high = 6; then = "end"; break;
                    case "years of reed N": village.sound[0] = n; low = 1; high = 30; then = "years of straw"; break;
                    case "years of straw N": village.sound[1] = n; low = 1; high = 30; then = "end"; break;
                    case "odds N": village.odds = n; low = 2; high = 6; then = "end"; break;
                    case "roof slate": house.slate = true; then = "end"; break;
                    case "roof reed": case "aged reed": case "damp reed": case "eaten reed": case "layers reed":
                    case "roof straw": case "aged straw": case "damp straw": case "eaten straw": case "layers straw":
                        if (house.layers.size() == village.deep) {
                            kind = 4;
                            return;
                        }
                        straw = new Straw();
                        straw.sort = token.equals("straw") ? 1 : 0;
                        house.layers.add(straw);
                        then = "age";
                        break;
                    case "age N": straw.age = n; high = 99; then = "aged"; break;
                    case "aged wet": straw.wet = true; then = "damp"; break;
                    case "aged mice": case "damp mice": then = "mice"; break;
                    case "mice N": straw.mice = n; low = 1; high = 99; then = "eaten"; break;
                    case "aged spark": case "damp spark": case "eaten spark": straw.spark = true; then = "layers"; break;
                    case "roof ;": case "aged ;": case "damp ;": case "eaten ;": case "layers ;": case "end ;":
                        village.lines++;
                        then = "line";
                        break;
                    default:
                        break;
                }
                if (then == null || number && (n < low || n > high)) {
                    kind = then == null ? 2 : 3;
                    return;
                }
                state = then;
            }
        }
    }
}
