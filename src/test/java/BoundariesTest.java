import java.io.IOException;
import java.nio.charset.StandardCharsets;
import java.nio.file.Files;
import java.nio.file.Path;
import java.util.Arrays;
import java.util.function.Consumer;
import java.util.function.LongSupplier;
import java.util.function.ToLongFunction;

/**
 * Each sentence of the document that names a boundary has its test here, under the sentence's own words: the last
 * value that can be and the first that can't. A refused call is looked at before and behind: it changes nothing.
 */
public final class BoundariesTest {
    private static final int MIN = Integer.MIN_VALUE;
    private static final int MAX = Integer.MAX_VALUE;
    /** Too far off to be a roof, a set of roofs, a count, a row, an image or a what. */
    private static final int[] FAR = {MIN, MIN + 1, -65536, -1000, 65536, 1 << 30, MAX - 1, MAX};
    private static final int PROMISES = 43;

    private static final String document = readDocument();
    private static final boolean[] isTested = new boolean[PROMISES + 1];
    private static String sentence = "";
    private static int wrong = 0;

    public static void main(String[] args) {
        terms();
        promisesOfTheRow();
        promisesOfYears();
        promisesOfWhoSkips();
        promisesOfMiceAndSparks();
        promisesOfMending();
        promisesOfWhatWas();
        promisesOfRowsAndImages();
        allPromisesAreMet();
        System.out.println(wrong == 0 ? "all boundaries hold" : wrong + " answers at boundaries are not as due");
        if (wrong != 0) {
            System.exit(1);
        }
    }

    private static void terms() {
        textsOf900Bytes();
        tokens();
        agesAndDepthsTold();
        layersTold();
        roofsAndRing();
        settings();
        firstFaults();
        kindsOfFaults();
        yearsAndSoundness();
        whatAYearMoves();
        whatAYearAges();
        rainAndLeaks();
        yearsThatCannotBe();
        from();
        yearsAside();
        fewestAndLeast();
        sparksWeeksPast();
        draws();
        refusedCalls();
    }

    private static void promisesOfTheRow() {
        newObject();
        feed();
        row();
        rowWithAFault();
        fault();
        roof();
        layer();
    }

    private static void promisesOfYears() {
        year();
        rain();
        judge();
        perform();
        drawn();
        leaks();
        leaksIn();
        spread();
        mend();
        slate();
        burn();
    }

    private static void promisesOfWhoSkips() {
        harm();
        may();
        laziest();
        harms();
        dry();
    }

    private static void promisesOfMiceAndSparks() {
        cat();
        mice();
        miceIn();
        cats();
        spark();
        sparkIn();
        odds();
        outOf();
        open();
        openOfNone();
    }

    private static void promisesOfMending() {
        order();
        bestOrder();
        orderRefused();
        wetted();
        wettedByAWrongOrder();
    }

    private static void promisesOfWhatWas() {
        past();
        sure();
        causes();
        look();
    }

    private static void promisesOfRowsAndImages() {
        numbers();
        numbersAnew();
        write();
        copy();
        image();
        restore();
        count();
    }

    private static void allPromisesAreMet() {
        for (int promise = 1; promise <= PROMISES; promise++) {
            if (!isTested[promise]) {
                wrong++;
                System.out.println("promise " + promise + " has no sentence here");
            }
        }
    }

    // ---- how a sentence is tested

    private static String readDocument() {
        try {
            return Files.readString(Path.of("../shared/DOC.md"), StandardCharsets.UTF_8).replaceAll("\\s+", " ");
        } catch (IOException e) {
            return "";
        }
    }

    /** What follows tests these words; they must stand in the document, where it is at hand. */
    private static void sentence(String words) {
        sentence = words;
        if (!document.isEmpty() && !document.contains(words)) {
            wrong++;
            System.out.println("the document does not say: " + words);
        }
    }

    private static void sentence(int promise, String words) {
        sentence(words);
        isTested[promise] = true;
    }

    private static void due(String call, long got, long want) {
        if (got != want) {
            wrong++;
            System.out.println("\"" + sentence + "\": " + call + " answered " + got + ", due is " + want);
        }
    }

    private static void dueAll(String call, int[] wants, ToLongFunction<Integer> asked) {
        for (int i = 0; i < wants.length; i++) {
            due(call + " " + i, asked.applyAsLong(i), wants[i]);
        }
    }

    private static void refused(ThatchNext x, String call, long code, LongSupplier answer) {
        long[] before = stateOf(x);
        due(call, answer.getAsLong(), code);
        long[] behind = stateOf(x);
        int at = Arrays.mismatch(before, behind);
        due(call + " changes nothing, place " + at, at, -1);
    }

    private static void refusedFar(ThatchNext x, String call, long code, ToLongFunction<Integer> answer) {
        for (int far : FAR) {
            refused(x, call + " with " + far, code, () -> answer.applyAsLong(far));
        }
    }

    /** All that can be asked for without a change. */
    private static long[] stateOf(ThatchNext x) {
        long[] state = new long[800];
        int i = 0;
        for (int what = 0; what <= 13; what++) {
            state[i++] = x.count(what);
        }
        state[i++] = x.fault(0);
        state[i++] = x.fault(1);
        for (int row = 0; row < 4; row++) {
            for (int what = 0; what < 4; what++) {
                state[i++] = x.judge(row, what);
            }
        }
        for (int r = 0; r < x.count(0); r++) {
            for (int what = 0; what < 8; what++) {
                state[i++] = x.roof(r, what);
            }
            for (int d = 0; d < x.roof(r, 0); d++) {
                for (int what = 0; what < 7; what++) {
                    state[i++] = x.layer(r, d, what);
                }
            }
        }
        return state;
    }

    private static void feedText(ThatchNext x, String text) {
        byte[] bytes = Arrays.copyOf(text.getBytes(StandardCharsets.ISO_8859_1), (text.length() + 19) / 20 * 20);
        for (int i = 0; i < bytes.length; i += 20) {
            int[] ints = new int[5];
            for (int k = 0; k < 20; k++) {
                ints[k / 4] = ints[k / 4] << 8 | bytes[i + k] & 255;
            }
            x.feed(ints[0], ints[1], ints[2], ints[3], ints[4]);
        }
    }

    private static int tell(ThatchNext x, String text) {
        feedText(x, text);
        return x.row(text.length());
    }

    @SafeVarargs
    private static ThatchNext told(String text, Consumer<ThatchNext>... calls) {
        ThatchNext x = new ThatchNext();
        due("row() of \"" + text + "\"", Math.min(0, tell(x, text)), 0);
        for (Consumer<ThatchNext> call : calls) {
            call.accept(x);
        }
        return x;
    }

    /** The row some 999 years on, in which none skipped. */
    private static ThatchNext toldLongAgo(String text) {
        ThatchNext x = told(text);
        x.numbers(3, 0, 40);
        for (int i = 0; i < 25; i++) {
            x.perform(3);
        }
        due("count(1)", x.count(1), 999);
        return x;
    }

    private static void fill(ThatchNext x, int row, int sort, long... values) {
        x.numbers(row, sort, values.length);
        for (int i = 0; i < values.length; i++) {
            x.write(row, i, values[i]);
        }
    }

    private static String times(int n, String text) {
        return text.repeat(n);
    }

    private static void fine(String text, int lines) {
        ThatchNext x = told("roof slate;");
        due("row() of \"" + text + "\"", tell(x, text), lines);
        due("fault(0) of \"" + text + "\"", x.fault(0), 0);
        due("fault(1) of \"" + text + "\"", x.fault(1), -1);
    }

    private static void faulty(String text, int kind, int place) {
        ThatchNext x = told("deep 4;odds 5;ring;roof reed 3 wet mice 2 spark;roof slate;");
        x.cat(0);
        x.year(0);
        long[] before = stateOf(x);
        due("row() of \"" + text + "\"", tell(x, text), -30 - kind);
        due("fault(0) of \"" + text + "\"", x.fault(0), kind);
        due("fault(1) of \"" + text + "\"", x.fault(1), place);
        long[] behind = stateOf(x);
        behind[14] = before[14];
        behind[15] = before[15];
        due("row() of \"" + text + "\" lets all stay, place", Arrays.mismatch(before, behind), -1);
    }

    // ---- Terms: the text

    private static void textsOf900Bytes() {
        sentence("THE ROW is a TEXT of at most 900 bytes");
        fine(times(180, "ring;"), 180);
        faulty(times(179, "ring;") + "ring ", 2, 900);

        sentence("(without one: no ROOFS)");
        due("count(0)", new ThatchNext().count(0), 0);
        fine("", 0);
        due("count(0)", told("roof;roof;", x -> x.row(0)).count(0), 0);
        fine(" \n \n", 0);
    }

    private static void tokens() {
        sentence("TOKENS, as long as they go on");
        faulty("roofroof;", 2, 0);
        faulty("roofreed 1;", 2, 0);
        fine("roof reed1wet mice1spark straw2;ring;", 2);
        faulty("reed 11;", 2, 7);
        fine("reed 1 1;", 1);

        sentence("between them blanks (10, 32)");
        fine("  roof\n\nreed\n1 \n;\n ", 1);
        for (int sign : new int[] {0, 9, 11, 13, 31, 33, 128 + 10, 128 + 32, 255}) {
            faulty("roof" + (char) sign + ";", 1, 4);
        }

        sentence("words (small letters)");
        for (char sign : new char[] {'A', 'Z', '`', '{', '@', '['}) {
            faulty("ring;" + sign + "oof;", 1, 5);
        }
        faulty("a;", 2, 0);
        faulty("ring;z;", 2, 5);

        sentence("N (1 to 3 digits)");
        fine("odds 2;odds 02;odds 002;", 3);
        fine("roof reed 000 reed 099 reed 009;", 1);
        faulty("odds 0002;", 1, 5);
        faulty("odds /;", 1, 5);
        faulty("odds -2;", 1, 5);

        sentence("the sign ;");
        faulty("ring:", 1, 4);
        faulty("ring<", 1, 4);
        faulty("ring;;", 2, 5);
        fine("ring;ring;", 2);
    }

    private static void agesAndDepthsTold() {
        sentence("its LAYERS from the top down, each by its sort and AGE 0 to 99");
        ThatchNext ages = told("roof reed 0 straw 99;roof straw 0 reed 99;");
        due("age", ages.layer(0, 0, 0), 0);
        due("age", ages.layer(0, 1, 0), 99);
        due("sort", ages.layer(0, 1, 1), 1);
        due("age", ages.layer(1, 0, 0), 0);
        due("age", ages.layer(1, 1, 0), 99);
        due("sort", ages.layer(1, 1, 1), 0);
        faulty("roof reed 100;", 3, 10);
        faulty("roof straw 100;", 3, 11);

        sentence("at most DEEP of them (those deeper are missing)");
        for (int deep = 1; deep <= 6; deep++) {
            String head = "deep " + deep + ";roof" + times(deep, " reed 1");
            fine(head + ";", 2);
            faulty(head + " straw 1;", 4, head.length() + 1);
            due("those deeper", told(head + ";").layer(0, deep, 0), -5);
        }
        due("none at all", told("roof;").roof(0, 0), 0);
    }

    private static void layersTold() {
        sentence("MICE 1 to 99");
        due("1", told("roof reed 1 mice 1;").layer(0, 0, 3), 1);
        due("99", told("roof reed 1 mice 99;").layer(0, 0, 3), 99);
        due("without", told("roof reed 1;").layer(0, 0, 3), 0);
        faulty("roof reed 1 mice 0;", 3, 17);
        faulty("roof reed 1 mice 100;", 3, 17);

        sentence("a ROOF without LAYERS (behind LAYERS it can't stand)");
        fine("roof slate;", 1);
        faulty("roof reed 1 slate;", 2, 12);
        faulty("roof reed 1 wet mice 1 spark slate;", 2, 29);
        faulty("roof slate reed 1;", 2, 11);
        faulty("roof slate slate;", 2, 11);

        sentence("each with [ wet ] [ mice N ] [ spark ]");
        fine("roof reed 1 wet reed 1 mice 3 reed 1 spark;", 1);
        fine("roof reed 1 wet mice 3 reed 1 wet spark reed 1 mice 3 spark;", 1);
        faulty("roof reed 1 wet wet;", 2, 16);
        faulty("roof reed 1 mice 3 mice 3;", 2, 19);
        faulty("roof reed 1 mice 3 wet;", 2, 19);
        faulty("roof reed 1 spark spark;", 2, 18);
        faulty("roof reed 1 spark wet;", 2, 18);
        faulty("roof reed 1 spark mice 3;", 2, 18);
    }

    private static void roofsAndRing() {
        sentence("ROOFS are 0, 1 .. as they come, 10 at most.");
        ThatchNext ten = told("roof slate;" + times(8, "roof;") + "roof slate;");
        due("count(0)", ten.count(0), 10);
        due("roof 0", ten.roof(0, 1), 1);
        due("roof 8", ten.roof(8, 1), 0);
        due("roof 9", ten.roof(9, 1), 1);
        faulty(times(11, "roof;"), 4, 50);
        faulty(times(10, "roof;") + "ring;roof slate;", 4, 55);

        sentence("the last ROOF's neighbour's place is ahead of ROOF 0.");
        due("a ring told first", told("ring;roof;roof;roof;").roof(0, 2), 2);
        due("a ring told last", told("roof;roof;roof;ring;").roof(0, 2), 2);
        due("no ring", told("roof;roof;roof;").roof(0, 2), -1);
    }

    private static void settings() {
        sentence("deep: 1 to 6 (3), ahead of all roofs.");
        due("as it is told", told("deep 1;").count(2), 1);
        due("as it is told", told("ring;odds 2;deep 6;").count(2), 6);
        due("without one", told("roof;").count(2), 3);
        faulty("deep 0;", 3, 5);
        faulty("deep 7;", 3, 5);
        faulty("roof;deep 3;", 2, 5);

        sentence("1 to 30 (8), of straw 1 to 30 (4).");
        due("reed", told("reed 1 30;").count(3), 1);
        due("straw", told("reed 1 30;").count(4), 30);
        due("reed", told("reed 30 1;").count(3), 30);
        due("straw", told("reed 30 1;").count(4), 1);
        due("reed without", told("roof;").count(3), 8);
        due("straw without", told("roof;").count(4), 4);
        faulty("reed 0 4;", 3, 5);
        faulty("reed 31 4;", 3, 5);
        faulty("reed 4 0;", 3, 7);
        faulty("reed 4 31;", 3, 7);

        sentence("odds: 2 to 6 (4).");
        due("2", told("odds 2;").count(5), 2);
        due("6", told("odds 6;").count(5), 6);
        due("without", told("roof;").count(5), 4);
        faulty("odds 1;", 3, 5);
        faulty("odds 7;", 3, 5);

        sentence("Later ones strike.");
        ThatchNext twice = told("deep 6;deep 1;reed 30 30;reed 1 2;odds 6;odds 2;ring;ring;roof;reed 3 4;odds 5;");
        dueAll("count", new int[] {1, 0, 1, 3, 4, 5, 0, 0, 0, 0, 1, 0, 11, 0}, what -> twice.count(what));
        faulty("deep 6;deep 1;roof reed 1 reed 1;", 4, 26);
        fine("deep 1;deep 6;roof reed 1 reed 1;", 3);
    }

    private static void firstFaults() {
        sentence("FAULTS, the first along the text");
        faulty("odds 9;ring,", 3, 5);
        faulty("ring,odds 9;", 1, 4);
        faulty("ring ring , 1000", 2, 5);
        faulty("reed 1000 99;", 1, 5);
        faulty("reed 99 1000;", 3, 5);

        sentence("of one TOKEN the least kind");
        faulty("ring 1000;", 1, 5);
        faulty("ring 999;", 2, 5);
        faulty("odds 1000;", 1, 5);
        faulty(times(9, "roof;") + "roof roof;", 2, 50);
        faulty("deep 1;roof slate reed 1 reed 1;", 2, 18);
    }

    private static void kindsOfFaults() {
        sentence("1 no TOKEN begins so (4 digits and more: at their first).");
        faulty("?", 1, 0);
        faulty("odds 1234;", 1, 5);
        faulty("odds " + times(800, "0") + "3;", 1, 5);
        faulty("odds 4294967300;", 1, 5);
        faulty("0000", 1, 0);
        faulty("roof reed 5,", 1, 11);

        sentence("2 it can't stand there (the end: the text's length;");
        faulty("roof", 2, 4);
        faulty("roof   ", 2, 7);
        faulty("roof reed", 2, 9);
        faulty("roof reed 1", 2, 11);
        faulty("roof reed 1 mice\n", 2, 17);
        faulty("roof slate", 2, 10);
        faulty("deep", 2, 4);
        faulty("deep 3", 2, 6);
        faulty("reed 3", 2, 6);
        faulty("reed 3 3", 2, 8);
        faulty("odds", 2, 4);
        faulty("ring;ring", 2, 9);
        for (String word : new String[] {"slate", "straw", "wet", "mice", "spark", "barn", "7", "roo", "poof", "roog", "roofs"}) {
            faulty("ring;" + word + " 3;", 2, 5);
        }

        sentence("deep behind a roof: at its first TOKEN)");
        faulty("roof;ring;deep 3;", 2, 10);
        faulty("roof; deep 9;", 2, 6);
        faulty("roof;deep", 2, 5);
        faulty("roof;deep,", 2, 5);
        fine("deep 3;ring;roof;", 3);

        sentence("3 an N out of its bounds.");
        faulty("deep 999;", 3, 5);
        faulty("reed 4 999;", 3, 7);
        faulty("roof straw 999", 3, 11);
        faulty("roof straw 99 mice 000,", 3, 19);

        sentence("4 the first TOKEN of an 11th roof, of a LAYER more than DEEP.");
        faulty(times(10, "roof;") + " roof", 4, 51);
        faulty(times(10, "roof;") + "roof,", 4, 50);
        faulty("roof reed 1 reed 1 reed 1 reed,", 4, 26);
        faulty("roof reed 1 reed 1 reed 1 straw 100;", 4, 26);
        faulty("deep 2;roof;roof reed 1 reed 1 wet mice 9 spark straw", 4, 48);
    }

    // ---- Terms: years

    private static void yearsAndSoundness() {
        sentence("YEAR is 0 at first, 999 at most.");
        ThatchNext old = toldLongAgo("roof;");
        refused(old, "year(0)", -5, () -> old.year(0));
        due("perform(3)", old.perform(3), 0);
        due("count(1)", old.count(1), 999);
        due("count(1) of a row told then", tell(old, "roof;") + old.count(1), 1);

        sentence("A LAYER is SOUND, if its AGE is not above the YEARS of its sort.");
        ThatchNext sound = told("reed 30 1;roof reed 30 reed 31 reed 0;roof straw 1 straw 2 straw 0;roof straw 30 reed 1;");
        int[][] wants = {{1, 0, 1}, {1, 0, 1}, {0, 1}};
        for (int r = 0; r < 3; r++) {
            int roof = r;
            dueAll("layer of roof " + r, wants[r], d -> sound.layer(roof, d, 6));
        }
        dueAll("sound ones of", new int[] {2, 2, 1}, r -> sound.roof(r, 4));

        sentence("(of ROOF 0 the last one in a ring of 2 ROOFS and more, else there is none)");
        due("a ring of 1", told("ring;roof;").roof(0, 2), -1);
        due("it takes nothing from itself", told("ring;roof reed 1 spark;").sparkIn(0, 1), -1);
        due("the last of a row gives nothing", told("roof;roof reed 1 spark;").sparkIn(0, 1), -1);
        due("the last of a ring gives", told("ring;roof;roof reed 1 spark;").sparkIn(0, 1), 1);
        due("a ring of 2", told("ring;roof;roof;").roof(0, 2), 1);
        due("a ring of 10", told("ring;" + times(10, "roof;")).roof(0, 2), 9);
        due("a row of 10", told(times(10, "roof;")).roof(0, 2), -1);
        dueAll("others", new int[] {9, 0, 1, 2, 3, 4, 5, 6, 7, 8}, r -> told("ring;" + times(10, "roof;")).roof(r, 2));

        sentence("who is slate gives nothing.");
        ThatchNext slates = told("ring;roof reed 1;roof slate;", x -> x.year(0));
        due("layers", slates.roof(0, 0), 1);
        due("layers", slates.roof(1, 0), 0);
    }

    private static void whatAYearMoves() {
        String layers = " reed 1 reed 2 reed 3 reed 4 reed 5 reed 6";
        sentence("who SKIPS keeps all LAYERS; slate stays;");
        ThatchNext kept = told("deep 6;roof reed 1 reed 2 reed 3 reed 4 reed 5 reed 6;roof slate;", x -> x.year(1));
        dueAll("age", new int[] {2, 3, 4, 5, 6, 7}, d -> kept.layer(0, d, 0));
        due("layers", kept.roof(0, 0), 6);
        due("slate", kept.roof(1, 1), 1);
        due("no new ones", kept.count(9), 0);

        sentence("has a new LAYER on top (reed, AGE 0, dry, without mice, spark)");
        ThatchNext laid = told("roof straw 9 wet mice 5 spark;", x -> x.year(0));
        dueAll("what", new int[] {0, 0, 0, 0, 0, 0, 1}, what -> laid.layer(0, 0, what));

        sentence("and below it, as deep as there is room, LAYERS of its GIVER");
        for (int deep = 1; deep <= 6; deep++) {
            String text = "deep " + deep + ";roof" + layers.substring(0, 7 * deep) + ";roof reed 50;";
            ThatchNext x = told(text, y -> y.year(0));
            due("layers, deep " + deep, x.roof(1, 0), deep);
            due("the deepest, deep " + deep, x.layer(1, deep - 1, 0), deep == 1 ? 0 : deep);
        }
        due("a giver without layers", told("roof;roof reed 50;", x -> x.year(0)).roof(1, 0), 1);

        sentence("its own ones, if that one SKIPS;");
        for (int deep = 1; deep <= 6; deep++) {
            String text = "deep " + deep + ";roof reed 50;roof" + layers.substring(0, 7 * deep) + ";";
            ThatchNext x = told(text, y -> y.year(1));
            due("layers, deep " + deep, x.roof(1, 0), deep);
            due("the deepest, deep " + deep, x.layer(1, deep - 1, 0), deep == 1 ? 0 : deep);
        }
        due("in a ring the last one", told("ring;roof reed 1;roof reed 50;", x -> x.year(2)).layer(0, 1, 0), 2);

        sentence("none without a GIVER or if that one is slate.");
        due("without", told("roof reed 1 reed 1;roof;", x -> x.year(0)).roof(0, 0), 1);
        due("in a ring of 1", told("ring;roof reed 1 reed 1;", x -> x.year(0)).roof(0, 0), 1);
        due("slate", told("roof slate;roof reed 1 reed 1;", x -> x.year(0)).roof(1, 0), 1);
        due("slate in a ring", told("ring;roof reed 1 reed 1;roof slate;", x -> x.year(0)).roof(0, 0), 1);
    }

    private static void whatAYearAges() {
        sentence("Then all LAYERS but new ones are 1 older, wet ones 2 (99 at most);");
        ThatchNext older = told("deep 6;roof reed 97 reed 98 reed 99 reed 97 wet reed 98 wet reed 99 wet;roof;", x -> x.year(1));
        dueAll("age", new int[] {98, 99, 99, 99, 99, 99}, d -> older.layer(0, d, 0));
        due("96 and wet", told("roof reed 96 wet;roof;", x -> x.year(0)).layer(1, 1, 0), 98);
        due("97 and wet", told("roof reed 97 wet;roof;", x -> x.year(0)).layer(1, 1, 0), 99);
        due("98 and wet", told("roof reed 98 wet;roof;", x -> x.year(0)).layer(1, 1, 0), 99);

        sentence("in each ROOF with a CAT there are no MICE;");
        String mice = "roof reed 1 mice 5;roof reed 1 mice 7;";
        due("a cat where they come from", told(mice, x -> x.cat(0), x -> x.year(0)).roof(1, 5), 10);
        due("a cat where they come to", told(mice, x -> x.cat(1), x -> x.year(0)).roof(1, 5), 0);
        due("a cat where one skips", told(mice, x -> x.cat(0), x -> x.year(1)).roof(0, 5), 0);
        due("a cat where own ones stay", told(mice, x -> x.cat(1), x -> x.year(1)).roof(1, 5), 0);

        sentence("MICE of other LAYERS are twice as many (99 at most).");
        ThatchNext twice = told("deep 6;roof reed 1 reed 1 mice 1 reed 1 mice 49 reed 1 mice 50 reed 1 mice 98 reed 1 mice 99;",
            x -> x.year(1));
        dueAll("mice", new int[] {0, 2, 98, 99, 99, 99}, d -> twice.layer(0, d, 3));
    }

    private static void rainAndLeaks() {
        sentence("from the top down LAYERS that are not SOUND become wet, to the first SOUND one (which stays as it is).");
        ThatchNext rain = told("roof reed 9 reed 8 reed 9;roof reed 9 reed 9 reed 9;roof reed 8 reed 9;roof slate;roof;");
        due("rain()", rain.rain(), 4);
        int[][] wet = {{1, 0, 0}, {1, 1, 1}, {0, 0}};
        for (int r = 0; r < 3; r++) {
            int roof = r;
            dueAll("wet ones of roof " + r, wet[r], d -> rain.layer(roof, d, 2));
        }
        ThatchNext stays = told("roof reed 9 reed 8 wet;", x -> x.rain());
        due("a sound one that is wet", stays.layer(0, 1, 2), 1);

        sentence("A ROOF LEAKS, if it is no slate and none of its LAYERS is SOUND (also without LAYERS).");
        dueAll("roof", new int[] {1, 0, 0, 1, 0}, r ->
            told("roof;roof slate;roof reed 9 straw 5 reed 8;roof reed 9 straw 5;roof straw 4;").roof(r, 3));
    }

    private static void yearsThatCannotBe() {
        sentence("It can't be at the first with: 1 a set with others than ROOFS; 2 one that is slate; 3 YEAR is 999.");
        ThatchNext x = told("roof;roof slate;roof;");
        long[] others = {8, -1, 1L << 31, 1L << 32, Long.MIN_VALUE, Long.MAX_VALUE};
        for (long set : others) {
            fill(x, 0, 3, 5, set, 0);
            due("the first", x.judge(0, 0), 1);
            due("why for " + set, x.judge(0, 1), 1);
        }
        fill(x, 0, 3, 5, 2, 8);
        due("the first", x.judge(0, 0), 1);
        due("why", x.judge(0, 1), 2);
        ThatchNext old = toldLongAgo("roof;roof slate;");
        fill(old, 0, 0, 1);
        due("the first", old.judge(0, 0), 0);
        due("why", old.judge(0, 1), 3);

        sentence("(Of one number that which is told first.)");
        fill(x, 0, 0, 10);
        due("others and slate", x.judge(0, 1), 1);
        fill(old, 0, 0, 2);
        due("slate and 999", old.judge(0, 1), 2);
        fill(old, 0, 0, 4);
        due("others and 999", old.judge(0, 1), 1);
        fill(old, 0, 0, 6);
        due("all of them", old.judge(0, 1), 1);
    }

    private static void from() {
        sentence("the ROOF on which it was new, if it was laid since THE ROW was told.");
        ThatchNext from = told(times(9, "roof;") + "roof reed 1;");
        due("a told one", from.layer(9, 0, 5), -1);
        from.year(1 << 8);
        due("laid", from.layer(9, 0, 5), 9);
        due("a told one below", from.layer(9, 1, 5), -1);
        from.mend(8, 1);
        due("mended", from.layer(8, 0, 5), 8);
        from.year(0);
        due("from next door", from.layer(9, 1, 5), 8);
        from.year(1 << 9);
        due("kept", from.layer(9, 1, 5), 8);
        due("on roof 0", from.layer(0, 0, 5), 0);
        from.image(0);
        tell(from, times(10, "roof reed 0;"));
        due("told anew", from.layer(9, 0, 5), -1);
        from.restore(0);
        due("as it was", from.layer(9, 1, 5), 8);
    }

    // ---- Terms: what is asked of the years

    private static void yearsAside() {
        sentence("(YEAR 999 aside, here and below)");
        ThatchNext old = toldLongAgo("ring;roof;roof;");
        old.burn(0);
        due("harm", old.harm(3, 12), 1);
        due("may", old.may(12), 2);
        due("laziest", old.laziest(12), 2);
        due("harms", old.harms(3, 0, 12), 1);
        due("dry", old.dry(1, 0), 1);
        due("dry", old.dry(1, 10), 2);
        due("dry for 4", old.dry(4, 0), 1);
        due("leaksIn", old.leaksIn(1), -1);
        old.mice(1, 5);
        due("miceIn", old.miceIn(2), 20);
        due("cats", old.cats(1), 1);
        old.spark(1);
        due("sparkIn", old.sparkIn(0, 1), 1);
        due("odds", old.odds(0, 1), 1);
        due("open", old.open(1), 0);
        old.burn(1);
        old.image(0);
        old.mend(0, 0);
        old.mend(1, 0);
        due("past", old.past(1), 1);
        due("past, both skip till the last", old.past(3), 1);
        due("sure", old.sure(3, 1), 3);
        due("count(1)", old.count(1), 999);
    }

    private static void fewestAndLeast() {
        sentence("that with the most ROOFS, of like ones the least as bits.");
        due("all", told(times(10, "roof reed 7;")).laziest(1), 1023);
        due("none", told(times(10, "roof reed 8;")).laziest(1), 0);
        due("slate aside", told("roof slate;roof straw 3;roof slate;").laziest(1), 2);

        sentence("that with the fewest, by which there are no MICE anywhere behind n YEARS in which none SKIPS; of like ones the least.");
        due("either roof", told("ring;roof reed 1 mice 1;roof;").cats(2), 1);
        due("either of three", told("ring;deep 4;roof;roof reed 1 mice 1;roof;").cats(3), 1);
        due("one rather than two that are less", told("ring;roof reed 1 mice 1;roof reed 1 mice 1;roof;").cats(2), 4);
        due("mice that lie deeper", told("roof reed 1 reed 1 mice 1;roof;roof;").cats(1), 2);
        due("mice that are too deep", told("roof reed 1 reed 1 reed 1 mice 1;roof;roof;").cats(1), 0);
        due("no mice", told("roof reed 1;roof;").cats(1), 0);
        due("roof 9", told(times(8, "roof;") + "roof reed 1 mice 1;roof;").cats(1), 512);
        due("mice that slate does not take", told("roof reed 1 mice 1;roof slate;").cats(1), 0);
    }

    private static void sparksWeeksPast() {
        sentence("and is no more; else it goes on with its LAYER, none SKIPPING; a LAYER that is no more has none.");
        due("out of the row", told("odds 2;roof;roof reed 1 spark;").odds(1, 6), 0);
        due("below what is deep", told("odds 2;deep 2;ring;roof reed 1 reed 1 spark;roof;").odds(1, 6), 0);
        due("one year, then no more", told("odds 2;deep 2;ring;roof reed 1 spark;roof;").odds(0, 6), 0);
        due("one year, then no more", told("odds 2;deep 2;ring;roof reed 1 spark;roof;").odds(1, 6), 32);
        due("what burned does not go on", told("odds 3;roof reed 1 spark;roof;roof;").odds(2, 2), 2);

        sentence("(numbers: 0 dry, others RAIN; at most 12)");
        for (long number : new long[] {1, -1, 256, Long.MIN_VALUE, Long.MAX_VALUE, 1L << 32}) {
            ThatchNext wet = told("roof;");
            fill(wet, 0, 3, number);
            due("rain by " + number, wet.order(0, 0), 1);
        }
        ThatchNext dry = told("roof;");
        fill(dry, 0, 0, 256);
        due("256 in 8 bits is 0", dry.order(0, 0), 0);

        sentence("(no RAIN between)");
        ThatchNext rained = told("roof reed 9;roof;", x -> x.image(0), x -> x.rain());
        rained.year(1);
        due("rain ahead of the year", rained.past(1), 0);
        rained.restore(0);
        rained.year(1);
        rained.rain();
        due("rain behind it", rained.past(1), 1);
    }

    private static void draws() {
        sentence("(x, an int; a DRAW: x becomes 1103515245 x + 12345, it is x >>> 16)");
        for (int seed : new int[] {0, 1, -1, 12345, MIN, MIN + 1, MAX - 1, MAX}) {
            drawnAsByHand(seed);
        }
    }

    private static void refusedCalls() {
        sentence("Refused calls answer by a code and change nothing");
        ThatchNext x = told("roof reed 1;roof slate;", y -> y.image(0), y -> y.year(0), y -> y.image(1));
        feedText(x, "ring;roof;");
        due("image(2)", x.image(2), -2);
        due("image(-1)", x.image(-1), -2);
        due("restore(2)", x.restore(2), -2);
        due("row(21)", x.row(21), -3);
        due("the images are as they were", x.restore(0) + x.count(1), 0);
        due("the images are as they were", x.restore(1) + x.count(1), 1);
        due("the tape is as it was", x.row(10), 2);
        due("count(10)", x.count(10), 1);

        sentence("-30 less the FAULT: a text. (Of several that which the call tells first.)");
        feedText(x, ",");
        due("how many goes ahead of the text", x.row(21), -3);
        due("the text", x.row(1), -31);
        due("the set ahead of the year", toldLongAgo("roof slate;").year(1), -3);
        due("the row ahead of what is missing", x.judge(4, 0), -2);
        due("what ahead of what is missing", x.judge(0, 4), -2);

        sentence("An object is used for at most 512 calls after it has been made");
        ThatchNext long512 = new ThatchNext();
        for (int call = 1; call < 512; call++) {
            due("call " + call, long512.row(0), 0);
        }
        due("the last one", long512.feed(0, 0, 0, 0, 0), 20);
    }

    /** By unsigned numbers of 32 bits, so that no sign and no wrap-around of an int takes part. */
    private static void drawnAsByHand(int seed) {
        String text = "ring;reed 1 1;deep 6;roof reed 1;roof slate;" + times(7, "roof straw 1 mice 1;") + "roof;";
        ThatchNext drawn = told(text);
        ThatchNext byHand = told(text);
        long x = seed & 0xffffffffL;
        int wet = 0;
        for (int year = 0; year < 30; year++) {
            int skips = 0;
            for (int r = 0; r < 10; r++) {
                if (r != 1) {
                    x = (1103515245L * x + 12345) & 0xffffffffL;
                    skips += x / 65536 % 4 == 0 ? 1 << r : 0;
                }
            }
            byHand.year(skips);
            x = (1103515245L * x + 12345) & 0xffffffffL;
            wet += x / 65536 % 2 == 1 ? byHand.rain() : 0;
        }
        due("drawn(" + seed + ", 30)", drawn.drawn(seed, 30), wet);
        due("drawn(" + seed + ", 30), what lies there", Arrays.mismatch(stateOf(drawn), stateOf(byHand)), -1);
    }

    // ---- Promises: the row

    private static void newObject() {
        sentence(1, "`ThatchNext()`: No ROOFS.");
        ThatchNext fresh = new ThatchNext();
        dueAll("count", new int[] {0, 0, 3, 8, 4, 4, 0, 0, 0, 0, 0, 0, 0, 0}, what -> fresh.count(what));
        refused(fresh, "roof(0, 0)", -2, () -> fresh.roof(0, 0));
        refused(fresh, "year(1)", -3, () -> fresh.year(1));
        due("leaks()", fresh.leaks(), 0);
        due("rain()", fresh.rain(), 0);
        due("look()", fresh.look(), -1);
        due("harm(0, 1)", fresh.harm(0, 1), 0);
        due("dry(4, 0)", fresh.dry(4, 0), 0);
        due("dry(4, 13)", fresh.dry(4, 13), 0);
        due("cats(8)", fresh.cats(8), 0);
        due("open(6)", fresh.open(6), -1);
        due("drawn(1, 30)", fresh.drawn(1, 30), 0);
        due("count(1)", fresh.count(1), 30);
    }

    private static void feed() {
        sentence(2, "Twenty bytes come behind those on THE TAPE, the highest of each int first: how many it has.");
        ThatchNext x = new ThatchNext();
        due("feed()", x.feed(0x72696e67, 0x3b6f6464, 0x7320363b, 0x726f6f66, 0x3b80ff00), 20);
        due("row(17)", x.row(17), 3);
        due("count(5)", x.count(5), 6);
        feedText(x, "roof reed 12 straw 3");
        due("behind those that are there", x.feed(0x34207765, 0x743b2020, 0x20202020, 0x20202020, 0x20202020), 40);
        due("row(26)", x.row(26), 1);
        due("a number across two feeds", x.layer(0, 1, 0), 34);
        due("the highest first, bits too", x.feed(0xf26f6f66, 0, 0, 0, 0) + x.row(1), 20 - 31);

        sentence(2, "-5: it would have more than 900.");
        for (int i = 1; i <= 45; i++) {
            due("feed()", x.feed(0x6f646473, 0x20353b20, 0x6f646473, 0x20333b20, 0x20202020), 20 * i);
        }
        refused(x, "feed()", -5, () -> x.feed(0, 0, 0, 0, 0));
        refused(x, "feed()", -5, () -> x.feed(MIN, MAX, -1, 1, 0));
        due("count(11)", x.count(11), 900);
        due("row(900)", x.row(900), 90);
        due("room again", x.feed(0, 0, 0, 0, 0), 20);
    }

    private static void row() {
        sentence(3, "-3: n is below 0 or above what there is (THE TAPE stays);");
        ThatchNext y = told("roof reed 1;", z -> z.year(0));
        refused(y, "row(1) of none", -3, () -> y.row(1));
        feedText(y, "ring;odds 2;roof;   ");
        refused(y, "row(-1)", -3, () -> y.row(-1));
        refused(y, "row(21)", -3, () -> y.row(21));
        refusedFar(y, "row()", -3, n -> y.row(n));
        due("count(11)", y.count(11), 20);
        due("row(20)", y.row(20), 3);

        sentence(3, "The first n bytes of THE TAPE (which is empty then) are THE ROW, YEAR is 0, no CATS: how many LINES");
        y.year(0);
        y.cat(0);
        feedText(y, "ring;odds 22;");
        due("no letter behind the first 3 is read", y.row(3), -32);
        due("it is at its first", y.fault(1), 0);
        feedText(y, "ring;odds 22;");
        due("no digit behind the first 11 is read", y.row(11), -32);
        due("it is at their end", y.fault(1), 11);
        feedText(y, "roof;roof;ring;odds 2;");
        due("row(10)", y.row(10), 2);
        dueAll("count", new int[] {2, 0, 3, 8, 4, 4, 0, 0, 0, 0, 0, 0, 2, 0}, what -> y.count(what));
        due("cats", y.roof(0, 6), 0);
        tell(y, "ring;deep 6;reed 1 2;odds 2;roof slate;roof reed 1 wet mice 1 spark reed 2 reed 3;roof slate;roof slate;");
        due("row()", tell(y, "roof;roof;roof reed 9;"), 3);
        dueAll("count", new int[] {3, 0, 3, 8, 4, 4, 1, 0, 0, 0, 0, 0, 3, 0}, what -> y.count(what));
        due("slate of old is gone", y.leaks(), 7);
        due("row(0)", y.row(0), 0);
        due("count(0)", y.count(0), 0);
        feedText(y, "roof;");
        due("row(0) of more", y.row(0), 0);
        due("count(11)", y.count(11), 0);
        due("most lines", tell(y, times(180, "ring;")), 180);
    }

    private static void rowWithAFault() {
        sentence(3, "(all stays with a FAULT)");
        ThatchNext stays = told("roof reed 1 mice 3;", z -> z.cat(0), z -> z.year(1));
        due("row()", tell(stays, "ring;roof;roof;odds 9;"), -33);
        dueAll("count", new int[] {1, 1, 3, 8, 4, 4, 1, 0, 0, 0, 0, 0, 1, 0}, what -> stays.count(what));
        due("cats", stays.roof(0, 6), 1);
        due("the tape is empty", stays.count(11), 0);

        sentence(3, "-30 less the FAULT.");
        due("1", tell(stays, ","), -31);
        due("2", tell(stays, ";"), -32);
        due("3", tell(stays, "odds 0;"), -33);
        due("4", tell(stays, times(11, "roof;")), -34);
    }

    private static void fault() {
        ThatchNext fresh = new ThatchNext();
        ThatchNext stays = told("roof;");
        tell(stays, times(11, "roof;"));
        sentence(4, "Of the latest row() that was read, what 0: its FAULT (0), 1: its place (NONE).");
        due("fault(0) of none", fresh.fault(0), 0);
        due("fault(1) of none", fresh.fault(1), -1);
        due("fault(0)", stays.fault(0), 4);
        due("fault(1)", stays.fault(1), 50);
        due("one that isn't read", stays.row(1), -3);
        due("fault(0)", stays.fault(0), 4);
        due("fault(1)", stays.fault(1), 50);
        due("at place 0", tell(stays, ",") + stays.fault(1), -31);
        due("one without a fault", stays.row(0), 0);
        due("fault(0)", stays.fault(0), 0);
        due("fault(1)", stays.fault(1), -1);

        sentence(4, "NONE for others.");
        refused(stays, "fault(-1)", -1, () -> stays.fault(-1));
        refused(stays, "fault(2)", -1, () -> stays.fault(2));
        refusedFar(stays, "fault()", -1, what -> stays.fault(what));
    }

    private static void roof() {
        sentence(5, "Of a ROOF, what 0: LAYERS, 1: 1 if it is slate, else 0, 2: its GIVER (NONE)");
        ThatchNext full = told("deep 6;ring;roof" + times(6, " reed 1 mice 99") + ";" + times(8, "roof;") + "roof slate;");
        dueAll("roof 0, what", new int[] {6, 0, 9, 0, 6, 594, 0, 0}, what -> full.roof(0, what));
        dueAll("roof 9, what", new int[] {0, 1, 8, 0, 0, 0, 0, 0}, what -> full.roof(9, what));
        dueAll("roof 1, what", new int[] {0, 0, 0, 1, 0, 0, 0, 0}, what -> full.roof(1, what));
        for (int what : new int[] {-1, 8}) {
            refused(full, "roof(0, " + what + ")", -2, () -> full.roof(0, what));
        }
        for (int r : new int[] {-1, 10}) {
            refused(full, "roof(" + r + ", 0)", -2, () -> full.roof(r, 0));
        }
        refusedFar(full, "roof()", -2, r -> full.roof(r, 0));
        refusedFar(full, "what", -2, what -> full.roof(0, what));

        sentence(5, "7: new LAYERS it laid.");
        full.year(2);
        full.mend(1, 1);
        dueAll("laid by roof", new int[] {1, 1, 1, 1, 1, 1, 1, 1, 1, 0}, r -> full.roof(r, 7));
    }

    private static void layer() {
        sentence(6, "Of the d-th LAYER of a ROOF from the top (from 0 on), what 0: AGE");
        ThatchNext x = told("deep 6;roof reed 0 straw 1 reed 2 straw 3 reed 4 straw 99 wet mice 99 spark;roof slate;roof;");
        dueAll("age", new int[] {0, 1, 2, 3, 4, 99}, d -> x.layer(0, d, 0));
        dueAll("the deepest, what", new int[] {99, 1, 1, 99, 1, -1, 0}, what -> x.layer(0, 5, what));
        dueAll("the top, what", new int[] {0, 0, 0, 0, 0, -1, 1}, what -> x.layer(0, 0, what));

        sentence(6, "-2: the ROOF, what; -5: no such LAYER.");
        for (int d : new int[] {-1, 6}) {
            refused(x, "layer(0, " + d + ", 0)", -5, () -> x.layer(0, d, 0));
            refused(x, "layer(3, " + d + ", 0)", -2, () -> x.layer(3, d, 0));
            refused(x, "layer(-1, " + d + ", 0)", -2, () -> x.layer(-1, d, 0));
            refused(x, "layer(0, " + d + ", 7)", -2, () -> x.layer(0, d, 7));
            refused(x, "layer(0, " + d + ", -1)", -2, () -> x.layer(0, d, -1));
        }
        refused(x, "of slate", -5, () -> x.layer(1, 0, 0));
        refused(x, "of a bare one", -5, () -> x.layer(2, 0, 0));
        refusedFar(x, "layer()", -2, r -> x.layer(r, 0, 0));
        refusedFar(x, "d", -5, d -> x.layer(0, d, 0));
        refusedFar(x, "what", -2, what -> x.layer(0, 0, what));
    }

    // ---- Promises: years

    private static void year() {
        sentence(7, "A YEAR with a set that SKIPS: ROOFS that LEAK then, as bits.");
        due("all", told(times(10, "roof;")).year(1023), 1023);
        due("roof 9", told(times(10, "roof;")).year(512), 512);
        due("none", told(times(10, "roof;")).year(0), 0);
        due("just sound", told("roof reed 7;").year(1), 0);
        due("just not", told("roof reed 8;").year(1), 1);

        sentence(7, "-3: a set with others than ROOFS, one that is slate; -5: YEAR is 999.");
        ThatchNext x = told("roof reed 1;roof slate;roof reed 1;");
        for (int set : new int[] {2, 3, 7, 8, 10, 1024, -1}) {
            refused(x, "year(" + set + ")", -3, () -> x.year(set));
        }
        refusedFar(x, "year()", -3, set -> x.year(set));
        due("both that are thatched", x.year(5), 0);
        ThatchNext old = toldLongAgo("roof reed 1;roof slate;");
        refused(old, "year(0)", -5, () -> old.year(0));
        refused(old, "year(1)", -5, () -> old.year(1));
        refused(old, "slate at 999", -3, () -> old.year(2));
        refused(old, "others at 999", -3, () -> old.year(4));
        ThatchNext last = toldLongAgo("roof reed 1;");
        tell(last, "roof reed 1;");
        for (int i = 0; i < 24; i++) {
            last.perform(3);
        }
        last.numbers(3, 0, 38);
        last.perform(3);
        due("year 998", last.count(1), 998);
        due("the last one", last.year(0), 0);
        refused(last, "one more", -5, () -> last.year(0));
    }

    private static void rain() {
        sentence(8, "RAIN: how many LAYERS became wet.");
        due("none", new ThatchNext().rain(), 0);
        due("all sixty", told("deep 6;" + times(10, "roof" + times(6, " reed 9") + ";")).rain(), 60);
        due("wet ones don't become so", told("roof reed 9 wet reed 9;").rain(), 1);
        due("sound ones don't", told("roof reed 8;").rain(), 0);
        due("none that are gone", told(times(2, "roof reed 9 reed 9;"), x -> x.burn(1)).rain(), 2);
        due("roofs of one layer too", told("roof;roof reed 9;roof reed 9 reed 9;").rain(), 3);
        ThatchNext rained = told("roof reed 1;roof reed 9 mice 1 straw 5 mice 2 spark reed 10;", x -> x.rain());
        int[][] wants = {{9, 0, 1, 1, 0, -1, 0}, {5, 1, 1, 2, 1, -1, 0}, {10, 0, 1, 0, 0, -1, 0}};
        for (int d = 0; d < 3; d++) {
            int depth = d;
            dueAll("all else stays, what", wants[d], what -> rained.layer(1, depth, what));
        }
    }

    private static void judge() {
        sentence(9, "what 0: the first place that can't be (NONE), 1: why (0)");
        ThatchNext y = told("roof;roof slate;");
        fill(y, 0, 0);
        dueAll("an empty row, what", new int[] {-1, 0, 1, 0}, what -> y.judge(0, what));
        fill(y, 0, 0, 2);
        dueAll("none can be, what", new int[] {0, 2, 1, 0}, what -> y.judge(0, what));
        fill(y, 0, 0, 0, 1, 4);
        dueAll("the last can't be, what", new int[] {2, 1, 0, 1}, what -> y.judge(0, what));
        fill(y, 0, 0, 0, 1, 1);
        dueAll("all can be, what", new int[] {-1, 0, 0, 1}, what -> y.judge(0, what));
        y.mend(0, 0);
        y.numbers(0, 0, 40);
        dueAll("forty more, what", new int[] {-1, 0, 0, 40}, what -> y.judge(0, what));
        y.write(0, 39, 2);
        dueAll("the fortieth can't be, what", new int[] {39, 2, 0, 39}, what -> y.judge(0, what));
        due("as if done", y.count(1), 0);

        sentence(9, "-2: the ROW, what; -6.");
        for (int row : new int[] {-1, 4}) {
            refused(y, "judge(" + row + ", 0)", -2, () -> y.judge(row, 0));
        }
        for (int what : new int[] {-1, 4}) {
            refused(y, "judge(0, " + what + ")", -2, () -> y.judge(0, what));
            refused(y, "judge(1, " + what + ")", -2, () -> y.judge(1, what));
        }
        refused(y, "judge(1, 0)", -6, () -> y.judge(1, 0));
        refused(y, "judge(3, 3)", -6, () -> y.judge(3, 3));
        refusedFar(y, "judge()", -2, row -> y.judge(row, 0));
        refusedFar(y, "what", -2, what -> y.judge(0, what));
    }

    private static void perform() {
        ThatchNext y = told("roof;roof slate;", x -> x.numbers(0, 0, 40), x -> x.write(0, 39, 2));
        sentence(10, "They are done as far as they can: how many. -2; -6.");
        due("39 of 40", y.perform(0), 39);
        due("count(1)", y.count(1), 39);
        due("none", y.write(0, 0, 4) + y.perform(0), 4);
        due("count(1)", y.count(1), 39);
        due("none of none", y.numbers(0, 0, 0) + y.perform(0), 0);
        due("all forty", y.numbers(0, 3, 40) + y.perform(0), 40);
        for (int row : new int[] {-1, 4}) {
            refused(y, "perform(" + row + ")", -2, () -> y.perform(row));
        }
        refused(y, "perform(3)", -6, () -> y.perform(3));
        refusedFar(y, "perform()", -2, row -> y.perform(row));
        for (int i = 0; i < 23; i++) {
            y.perform(0);
        }
        due("to 999", y.perform(0), 0);
        due("count(1)", y.count(1), 999);
    }

    private static void drawn() {
        sentence(11, "-3: how many; -5: YEAR would be above 999.");
        ThatchNext x = told("roof reed 1;roof slate;");
        for (int years : new int[] {-1, 0, 31}) {
            refused(x, "drawn(1, " + years + ")", -3, () -> x.drawn(1, years));
        }
        refusedFar(x, "drawn()", -3, years -> x.drawn(1, years));
        due("1 year", Math.min(0, x.drawn(1, 1)) + x.count(1), 1);
        due("30 years", Math.min(0, x.drawn(1, 30)) + x.count(1), 31);
        x.numbers(0, 0, 39);
        x.perform(0);
        for (int i = 0; i < 30; i++) {
            x.drawn(i, 30);
        }
        due("count(1)", x.count(1), 970);
        refused(x, "to 1000", -5, () -> x.drawn(1, 30));
        due("to 999", Math.min(0, x.drawn(1, 29)) + x.count(1), 999);
        refused(x, "drawn(1, 1)", -5, () -> x.drawn(1, 1));
        refused(x, "drawn(1, 31)", -3, () -> x.drawn(1, 31));
        refused(x, "drawn(1, 0)", -3, () -> x.drawn(1, 0));
    }

    private static void leaks() {
        sentence(12, "ROOFS that LEAK, as bits.");
        due("none", new ThatchNext().leaks(), 0);
        due("all", told(times(10, "roof;")).leaks(), 1023);
        due("roof 9", told(times(9, "roof slate;") + "roof reed 9;").leaks(), 512);
        due("at its last sound age", told("reed 30 30;roof reed 30;roof straw 30;").leaks(), 0);
        due("a year above", told("reed 30 30;roof reed 31;roof straw 31;").leaks(), 3);
    }

    private static void leaksIn() {
        sentence(13, "a ROOF LEAKS first (0: it does). NONE: not by 99; -2.");
        ThatchNext y = told("roof;roof reed 99;roof reed 8 wet;roof slate;roof straw 5 reed 0;");
        dueAll("leaksIn", new int[] {0, 0, -1, -1, -1}, r -> y.leaksIn(r));
        refused(y, "leaksIn(5)", -2, () -> y.leaksIn(5));
        refused(y, "leaksIn(-1)", -2, () -> y.leaksIn(-1));
        refusedFar(y, "leaksIn()", -2, r -> y.leaksIn(r));
    }

    private static void spread() {
        sentence(14, "ROOFS with LAYERS FROM a ROOF, as bits. -2.");
        ThatchNext round = told("ring;deep 6;" + times(10, "roof;"));
        due("none yet", round.spread(9), 0);
        for (int i = 0; i < 7; i++) {
            round.year(0);
        }
        due("six, as deep as it goes", round.spread(0), 63);
        due("round the ring", round.spread(9), 512 + 31);
        due("from the middle", round.spread(4), 1008);
        refused(round, "spread(10)", -2, () -> round.spread(10));
        refused(round, "spread(-1)", -2, () -> round.spread(-1));
        refusedFar(round, "spread()", -2, r -> round.spread(r));
    }

    private static void mend() {
        sentence(15, "the AGE of the old one (NONE: there was none). -2: the ROOF, sort; -5: slate.");
        ThatchNext mended = told("deep 2;roof reed 99 reed 7;roof slate;roof;roof straw 0;roof reed 5;");
        for (int sort : new int[] {-1, 2}) {
            refused(mended, "mend(0, " + sort + ")", -2, () -> mended.mend(0, sort));
            refused(mended, "mend(1, " + sort + ")", -2, () -> mended.mend(1, sort));
        }
        for (int r : new int[] {-1, 5}) {
            refused(mended, "mend(" + r + ", 0)", -2, () -> mended.mend(r, 0));
        }
        refusedFar(mended, "mend()", -2, r -> mended.mend(r, 0));
        refusedFar(mended, "sort", -2, sort -> mended.mend(0, sort));
        refused(mended, "slate", -5, () -> mended.mend(1, 0));
        due("5", mended.mend(4, 0), 5);
        due("none", mended.mend(2, 1), -1);
        due("99", mended.mend(0, 0), 99);
        due("0", mended.mend(3, 1), 0);
        dueAll("layers", new int[] {2, 0, 1, 1, 1}, r -> mended.roof(r, 0));
        due("what is below stays", mended.layer(0, 1, 0), 7);
    }

    private static void slate() {
        sentence(16, "A ROOF becomes slate: how many LAYERS went. -2; -5: it is.");
        ThatchNext slates = told("deep 6;roof" + times(6, " reed 1 spark") + ";roof;roof slate;");
        due("none", slates.slate(1), 0);
        due("all six", slates.slate(0), 6);
        for (int r = 0; r < 3; r++) {
            int roof = r;
            refused(slates, "slate(" + r + ")", -5, () -> slates.slate(roof));
        }
        refused(slates, "slate(3)", -2, () -> slates.slate(3));
        refused(slates, "slate(-1)", -2, () -> slates.slate(-1));
        refusedFar(slates, "slate()", -2, r -> slates.slate(r));
        due("none leaks", slates.leaks(), 0);
    }

    private static void burn() {
        sentence(17, "All LAYERS of a ROOF are gone by fire: SPARKS that went. -2; -5: slate.");
        ThatchNext burnt = told("deep 6;roof" + times(6, " reed 1 spark") + ";roof;roof slate;roof reed 1;");
        due("a bare one", burnt.burn(1), 0);
        due("without sparks", burnt.burn(3), 0);
        due("all six", burnt.burn(0), 6);
        due("again", burnt.burn(0), 0);
        refused(burnt, "slate", -5, () -> burnt.burn(2));
        refused(burnt, "burn(4)", -2, () -> burnt.burn(4));
        refused(burnt, "burn(-1)", -2, () -> burnt.burn(-1));
        refusedFar(burnt, "burn()", -2, r -> burnt.burn(r));
        due("all that are no slate leak", burnt.leaks(), 11);
        goneLayers(gone -> gone.burn(1));
        goneLayers(gone -> gone.slate(1));
    }

    /** Nothing that lay on a roof is met with any more. */
    private static void goneLayers(Consumer<ThatchNext> gone) {
        ThatchNext x = told("deep 6;reed 1 1;ring;roof;roof;roof;");
        x.year(0);
        x.year(7);
        x.year(7);
        x.burn(0);
        x.burn(2);
        x.mice(1, 9);
        x.spark(1);
        due("sources", x.causes(2), 2);
        gone.accept(x);
        int[] wants = {3, 3, 6, 1, 1, 4, 0, 0, 0, 3, 1, 0, 6, 0};
        dueAll("count", wants, what -> x.count(what));
        due("spread", x.spread(1), 0);
        due("causes", x.causes(2), 0);
        due("rain", x.rain(), 0);
        due("miceIn", x.miceIn(1), 0);
        due("cats", x.cats(1), 0);
        due("sparkIn", x.sparkIn(0, 0), -2);
        due("odds", x.odds(2, 1), 0);
        due("open", x.open(1), -1);
        due("copy", x.numbers(0, 0, 6) + x.copy(1, 0), 0);
        due("year", x.year(0), 0);
        dueAll("layers", new int[] {1, x.roof(1, 1) == 1 ? 0 : 1, 1}, r -> x.roof(r, 0));
    }

    // ---- Promises: who skips

    private static ThatchNext oneThatMay() {
        return told("roof;roof slate;roof reed 8;roof reed 7;");
    }

    private static void harm() {
        ThatchNext x = oneThatMay();
        sentence(18, "HARM of a set for n YEARS. -3: a set with others than ROOFS, one that is slate, n.");
        due("the empty set", x.harm(0, 1), 0);
        due("1 year", x.harm(13, 1), 2);
        due("12 years", x.harm(13, 12), 2);
        due("one that may", x.harm(8, 12), 0);
        due("all ten", told(times(10, "roof;")).harm(1023, 12), 10);
        for (int n : new int[] {-1, 0, 13}) {
            refused(x, "harm(1, " + n + ")", -3, () -> x.harm(1, n));
        }
        for (int set : new int[] {2, 3, 16, 18, -1}) {
            refused(x, "harm(" + set + ", 1)", -3, () -> x.harm(set, 1));
        }
        refusedFar(x, "harm()", -3, set -> x.harm(set, 1));
        refusedFar(x, "n", -3, n -> x.harm(1, n));
    }

    private static void may() {
        ThatchNext x = oneThatMay();
        sentence(19, "Those who MAY, as bits. -3: n.");
        due("1 year", x.may(1), 8);
        due("12 years", x.may(12), 8);
        due("no roofs", new ThatchNext().may(1), 0);
        due("all ten", told(times(10, "roof reed 7;")).may(12), 1023);
        for (int n : new int[] {-1, 0, 13}) {
            refused(x, "may(" + n + ")", -3, () -> x.may(n));
        }
        refusedFar(x, "may()", -3, n -> x.may(n));
    }

    private static void laziest() {
        ThatchNext x = oneThatMay();
        sentence(20, "LAZIEST, as bits. -3: n.");
        due("1 year", x.laziest(1), 8);
        due("12 years", x.laziest(12), 8);
        due("no roofs", new ThatchNext().laziest(12), 0);
        for (int n : new int[] {-1, 0, 13}) {
            refused(x, "laziest(" + n + ")", -3, () -> x.laziest(n));
        }
        refusedFar(x, "laziest()", -3, n -> x.laziest(n));
    }

    private static void harms() {
        ThatchNext x = oneThatMay();
        sentence(21, "than if none did. -2: the ROOF; -3: the set, n.");
        due("one of the set", x.harms(5, 2, 1), 1);
        due("12 years", x.harms(5, 0, 12), 1);
        due("one that is not of it", x.harms(1, 2, 12), 0);
        due("slate", x.harms(13, 1, 12), 0);
        due("one that may", x.harms(13, 3, 12), 0);
        for (int r : new int[] {-1, 4}) {
            refused(x, "harms(1, " + r + ", 1)", -2, () -> x.harms(1, r, 1));
            refused(x, "harms(16, " + r + ", 0)", -2, () -> x.harms(16, r, 0));
        }
        for (int set : new int[] {2, 16, -1}) {
            refused(x, "harms(" + set + ", 0, 1)", -3, () -> x.harms(set, 0, 1));
        }
        for (int n : new int[] {-1, 0, 13}) {
            refused(x, "harms(1, 0, " + n + ")", -3, () -> x.harms(1, 0, n));
        }
        refusedFar(x, "harms()", -3, set -> x.harms(set, 0, 1));
        refusedFar(x, "r", -2, r -> x.harms(1, r, 1));
        refusedFar(x, "n", -3, n -> x.harms(1, 0, n));
    }

    private static void dry() {
        sentence("KEPT DRY for n YEARS (1 to 4): the fewest new LAYERS in all");
        ThatchNext x = told("reed 1 1;roof reed 1;roof reed 0;roof slate;roof reed 1;");
        dueAll("the fewest by years less 1", new int[] {2, 3, 5, 6}, n -> x.dry(n + 1, 0));
        due("none must", told(times(4, "roof reed 0;")).dry(4, 0), 0);
        due("all must, each year", told("reed 1 1;" + times(4, "roof;")).dry(1, 0), 4);

        sentence("of like ones the first by sets that SKIP, YEAR by YEAR.");
        due("all lay ahead of", told("reed 2 1;roof reed 2;roof reed 1;").dry(2, 10), 0);
        due("both skip behind", told("reed 2 1;roof reed 2;roof reed 1;").dry(2, 11), 3);

        sentence(22, "what 0: how many new LAYERS, 10 + k: the set that SKIPS in the k-th YEAR. NONE: it can't be, not so many;");
        for (int n = 1; n <= 4; n++) {
            ThatchNext all = told(times(4, "roof reed 0;"));
            int years = n;
            dueAll("dry(" + n + ", 10 + k)", new int[] {15, n > 1 ? 15 : -1, n > 2 ? 15 : -1, n > 3 ? 15 : -1},
                k -> all.dry(years, 10 + k));
        }

        sentence(22, "-2: what (10 to 13); -3: n; -4: more than 4 ROOFS (all as numbers alone).");
        for (int what : new int[] {-1, 1, 9, 14}) {
            refused(x, "dry(1, " + what + ")", -2, () -> x.dry(1, what));
            refused(x, "dry(0, " + what + ")", -2, () -> x.dry(0, what));
        }
        for (int n : new int[] {-1, 0, 5}) {
            refused(x, "dry(" + n + ", 0)", -3, () -> x.dry(n, 0));
            refused(x, "dry(" + n + ", 13)", -3, () -> x.dry(n, 13));
        }
        refusedFar(x, "dry()", -3, n -> x.dry(n, 0));
        refusedFar(x, "what", -2, what -> x.dry(1, what));
        ThatchNext five = told(times(4, "roof;") + "roof slate;");
        refused(five, "five", -4, () -> five.dry(1, 0));
        refused(five, "five and not so many", -4, () -> five.dry(1, 13));
        refused(five, "n ahead of that", -3, () -> five.dry(5, 0));
        refused(five, "what ahead of that", -2, () -> five.dry(5, 14));
    }

    // ---- Promises: mice, sparks

    private static void cat() {
        sentence(23, "A CAT comes to a ROOF, or goes: whether one is there then (1, 0). -2; -5: slate.");
        ThatchNext x = told(times(9, "roof slate;") + "roof;");
        due("comes", x.cat(9), 1);
        due("goes", x.cat(9), 0);
        due("comes again", x.cat(9), 1);
        due("is there", x.roof(9, 6), 1);
        refused(x, "slate", -5, () -> x.cat(8));
        refused(x, "cat(10)", -2, () -> x.cat(10));
        refused(x, "cat(-1)", -2, () -> x.cat(-1));
        refusedFar(x, "cat()", -2, r -> x.cat(r));
    }

    private static void mice() {
        sentence(24, "MICE come into the top LAYER of a ROOF (1 to 99): how many there are in it then (99 at most).");
        ThatchNext y = told("roof reed 1 reed 1;roof slate;roof;roof reed 1;roof reed 1 mice 98;roof reed 1 mice 98;");
        due("1", y.mice(0, 1), 1);
        due("98 more", y.mice(0, 98), 99);
        due("1 more", y.mice(0, 1), 99);
        due("99 more", y.mice(0, 99), 99);
        due("none below", y.layer(0, 1, 3), 0);
        due("99", y.mice(3, 99), 99);
        due("98 and 1", y.mice(4, 1), 99);
        due("98 and 2", y.mice(5, 2), 99);

        sentence(24, "-2; -3; -5: it has no LAYER.");
        for (int n : new int[] {-1, 0, 100}) {
            refused(y, "mice(0, " + n + ")", -3, () -> y.mice(0, n));
            refused(y, "mice(1, " + n + ")", -3, () -> y.mice(1, n));
            refused(y, "mice(6, " + n + ")", -2, () -> y.mice(6, n));
        }
        refused(y, "slate", -5, () -> y.mice(1, 1));
        refused(y, "a bare one", -5, () -> y.mice(2, 99));
        refused(y, "mice(-1, 1)", -2, () -> y.mice(-1, 1));
        refusedFar(y, "mice()", -2, r -> y.mice(r, 1));
        refusedFar(y, "n", -3, n -> y.mice(0, n));
    }

    private static void miceIn() {
        sentence(25, "MICE everywhere behind n YEARS (0 to 30) in which none SKIPS. -3.");
        ThatchNext z = told("ring;deep 6;" + times(10, "roof reed 1 mice 2;"));
        dueAll("years", new int[] {20, 40, 80, 160, 320, 640, 0}, n -> z.miceIn(n));
        due("30 years", z.miceIn(30), 0);
        due("99 at most", told("deep 6;roof reed 1 mice 50;roof;roof;").miceIn(2), 99);
        due("most of all", told("deep 6;" + times(10, "roof" + times(6, " reed1mice99") + ";")).miceIn(0), 5940);
        refused(z, "31", -3, () -> z.miceIn(31));
        refused(z, "-1", -3, () -> z.miceIn(-1));
        refusedFar(z, "miceIn()", -3, n -> z.miceIn(n));
        z.cat(0);
        due("with a cat, 1 year", z.miceIn(1), 36);
    }

    private static void cats() {
        ThatchNext z = told("roof reed 1 mice 2;roof;");
        sentence(26, "CATS, as bits. NONE: there is no such set; -3: n (both as numbers alone).");
        due("1 year", told("ring;deep 6;" + times(10, "roof reed 1 mice 2;")).cats(1), 1023);
        due("5 years", told("ring;deep 6;" + times(10, "roof reed 1 mice 2;")).cats(5), 33);
        due("6 years", told("ring;deep 6;" + times(10, "roof reed 1 mice 2;")).cats(6), 0);
        due("8 years", told("ring;deep 6;" + times(10, "roof reed 1 mice 2;")).cats(8), 0);
        ThatchNext shorter = told("deep 6;" + times(10, "roof" + times(6, " reed1mice99") + ";"));
        due("of a shorter row without mice", tell(shorter, "ring;roof reed 1;roof reed 1;") + shorter.cats(1), 3);
        due("most mice", told("ring;deep 6;" + times(10, "roof" + times(6, " reed1mice99") + ";")).cats(1), 1023);
        for (int n : new int[] {-1, 0, 9}) {
            refused(z, "cats(" + n + ")", -3, () -> z.cats(n));
        }
        refusedFar(z, "cats()", -3, n -> z.cats(n));
    }

    private static void spark() {
        sentence(27, "how many SPARKS there are everywhere. -2; -5: it has no LAYER, that one has one.");
        ThatchNext x = told("deep 6;" + times(9, "roof" + times(6, " reed1spark") + ";") + "roof reed1" + times(5, " reed1spark") + ";");
        due("sixty", x.spark(9), 60);
        refused(x, "it has one", -5, () -> x.spark(9));
        x.burn(9);
        refused(x, "a bare one", -5, () -> x.spark(9));
        x.slate(9);
        refused(x, "slate", -5, () -> x.spark(9));
        refused(x, "spark(10)", -2, () -> x.spark(10));
        refused(x, "spark(-1)", -2, () -> x.spark(-1));
        refusedFar(x, "spark()", -2, r -> x.spark(r));
        ThatchNext first = told("roof reed 1;roof straw 3 wet mice 4 reed 1;");
        due("the first", first.spark(1), 1);
        dueAll("in the top, what", new int[] {3, 1, 1, 4, 1, -1, 1}, what -> first.layer(1, 0, what));
        due("not below", first.layer(1, 1, 4), 0);
        due("the second", first.spark(0), 2);
    }

    private static void sparkIn() {
        sentence(28, "(by ROOFS, from the top down) is n YEARS on (0 to 30), none SKIPPING: 10 times the ROOF, and how deep.");
        ThatchNext y = told("ring;deep 6;roof reed 1 spark reed 1;" + times(8, "roof;") + "roof" + times(5, " reed 1") + " reed 1 spark;");
        dueAll("the first, years", new int[] {0, 11, 22, 33, 44, 55, -1}, n -> y.sparkIn(0, n));
        due("the deepest of the last", y.sparkIn(1, 0), 95);
        due("30 years", y.sparkIn(1, 30), -1);
        due("round the ring", told("ring;roof;roof reed 1 spark;").sparkIn(0, 1), 1);

        sentence(28, "NONE: it is no more; -2: no such SPARK; -3: n (all as numbers alone).");
        due("below what is deep", y.sparkIn(1, 1), -1);
        for (int k : new int[] {-1, 2}) {
            refused(y, "sparkIn(" + k + ", 0)", -2, () -> y.sparkIn(k, 0));
            refused(y, "sparkIn(" + k + ", 31)", -2, () -> y.sparkIn(k, 31));
        }
        for (int n : new int[] {-1, 31}) {
            refused(y, "sparkIn(0, " + n + ")", -3, () -> y.sparkIn(0, n));
            refused(y, "sparkIn(1, " + n + ")", -3, () -> y.sparkIn(1, n));
        }
        refusedFar(y, "sparkIn()", -2, k -> y.sparkIn(k, 0));
        refusedFar(y, "n", -3, n -> y.sparkIn(0, n));
        due("no sparks", told("roof reed 1;").sparkIn(0, 0), -2);
    }

    private static ThatchNext threeSparks() {
        return told("odds 6;deep 6;roof" + times(3, " reed 1 spark") + ";roof;roof;");
    }

    private static ThatchNext fourSparks() {
        return told("roof" + times(3, " reed 1 spark") + ";roof reed 1 spark;");
    }

    private static void odds() {
        ThatchNext three = threeSparks();
        ThatchNext four = fourSparks();
        sentence("ODDS of a ROOF for n YEARS (1 to 6), with at most 3 SPARKS");
        due("1 year", three.odds(1, 1), 216 - 125);
        due("roof 0", three.odds(0, 1), 0);
        due("6 years", three.odds(1, 6), (216 - 125) * 470184984576L);
        due("no sparks", told("roof;").odds(0, 6), 0);

        sentence(29, "ODDS. -2; -3: n; -4: more than 3 SPARKS.");
        for (int n : new int[] {-1, 0, 7}) {
            refused(three, "odds(0, " + n + ")", -3, () -> three.odds(0, n));
            refused(four, "odds(0, " + n + ")", -3, () -> four.odds(0, n));
            refused(four, "odds(2, " + n + ")", -2, () -> four.odds(2, n));
        }
        refused(four, "four", -4, () -> four.odds(0, 1));
        refused(four, "odds(-1, 1)", -2, () -> four.odds(-1, 1));
        refusedFar(three, "odds()", -2, r -> three.odds(r, 1));
        refusedFar(three, "n", -3, n -> three.odds(0, n));
    }

    private static void outOf() {
        ThatchNext three = threeSparks();
        ThatchNext four = fourSparks();
        sentence(30, "Of how many (odds to the n times SPARKS). -3; -4.");
        due("no sparks", told("roof;").outOf(6), 1);
        due("1 year", three.outOf(1), 216);
        due("the most", three.outOf(6), 101559956668416L);
        due("the fewest", told("odds 2;roof reed 1 spark;").outOf(1), 2);
        for (int n : new int[] {-1, 0, 7}) {
            refused(three, "outOf(" + n + ")", -3, () -> three.outOf(n));
            refused(four, "outOf(" + n + ")", -3, () -> four.outOf(n));
        }
        refused(four, "four", -4, () -> four.outOf(6));
        refusedFar(three, "outOf()", -3, n -> three.outOf(n));
    }

    private static void open() {
        sentence("OPEN for n: the ROOF with the greatest ODDS, the first.");
        due("two alike", told("roof reed 1 spark;roof reed 1 spark;roof;").open(1), 1);
        due("roof 0", told("ring;roof;roof reed 1 spark;").open(6), 0);
        due("roof 9", told(times(8, "roof;") + "roof reed 1 spark;roof;").open(6), 9);
        due("1 year", told("roof reed 1 spark;roof reed 1 spark;roof;").open(1), 1);
        due("2 years", told("roof reed 1 spark;roof reed 1 spark;roof;").open(2), 2);
        due("6 years", told("roof reed 1 spark;roof reed 1 spark;roof;").open(6), 2);
        due("a later one with more", told("roof reed 1 spark;roof reed 1 spark reed 1 spark;roof;").open(1), 2);
    }

    private static void openOfNone() {
        ThatchNext three = threeSparks();
        ThatchNext four = fourSparks();
        sentence(31, "NONE: all ODDS are 0; -3; -4 (as numbers alone).");
        due("no sparks", told("roof reed 1;").open(6), -1);
        due("no roofs", new ThatchNext().open(1), -1);
        due("sparks that go nowhere", told("roof reed 1 spark;roof slate;").open(6), -1);
        for (int n : new int[] {-1, 0, 7}) {
            refused(three, "open(" + n + ")", -3, () -> three.open(n));
            refused(four, "open(" + n + ")", -3, () -> four.open(n));
        }
        refused(four, "four", -4, () -> four.open(1));
        refusedFar(three, "open()", -3, n -> three.open(n));
    }

    // ---- Promises: weeks of mending

    private static void order() {
        sentence("all ROOFS that are no slate (7 at most), one a WEEK from the first on");
        ThatchNext x = told("roof slate;" + times(7, "roof;") + "roof slate;roof slate;");
        fill(x, 0, 0, 1, 0, 0, 0, 0, 0, 1, 1);
        // all seven leak or are bare in the first week, one is bare in the seventh, none is left in the eighth
        due("order", x.order(0, 0), 8);
        dueAll("order", new int[] {1, 2, 3, 4, 5, 6, 7, -1, -1, -1}, k -> x.order(0, 10 + k));
    }

    private static void bestOrder() {
        sentence("of like ones the first by ROOFS (those behind the ROW's end, too).");
        ThatchNext late = told("roof reed 1;roof;roof reed 1;roof;");
        fill(late, 0, 0, 0, 1);
        dueAll("leaking ones ahead", new int[] {1, 3, 0, 2, -1}, k -> late.order(0, 10 + k));
        fill(late, 0, 0, 0, 0, 1);
        dueAll("both by the third week", new int[] {0, 1, 3, 2}, k -> late.order(0, 10 + k));
        fill(late, 0, 0, 0, 0, 0, 1);
        dueAll("both by the fourth week", new int[] {0, 1, 2, 3}, k -> late.order(0, 10 + k));
        fill(late, 0, 0);
        dueAll("no weeks told", new int[] {0, 1, 2, 3}, k -> late.order(0, 10 + k));
    }

    private static void orderRefused() {
        ThatchNext x = told("roof slate;" + times(7, "roof;"), y -> y.numbers(0, 0, 8));
        sentence(32, "NONE: not so many; -2: the ROW, what (10 to 19); -6; -4: more than 12 WEEKS, than 7 ROOFS (all as numbers alone).");
        due("not so many", x.order(0, 17), -1);
        due("not so many", x.order(0, 19), -1);
        due("no roofs", told("roof slate;", y -> y.numbers(0, 0, 1)).order(0, 10), -1);
        for (int what : new int[] {-1, 1, 9, 20}) {
            refused(x, "order(0, " + what + ")", -2, () -> x.order(0, what));
            refused(x, "order(1, " + what + ")", -2, () -> x.order(1, what));
        }
        for (int row : new int[] {-1, 4}) {
            refused(x, "order(" + row + ", 0)", -2, () -> x.order(row, 0));
        }
        refused(x, "order(1, 0)", -6, () -> x.order(1, 0));
        refusedFar(x, "order()", -2, row -> x.order(row, 0));
        refusedFar(x, "what", -2, what -> x.order(0, what));
        x.numbers(0, 0, 12);
        due("12 weeks", x.order(0, 0), 0);
        x.numbers(0, 0, 13);
        refused(x, "13 weeks", -4, () -> x.order(0, 0));
        refused(x, "13 weeks, not so many", -4, () -> x.order(0, 19));
        ThatchNext eight = told(times(8, "roof;"), y -> y.numbers(0, 0, 0));
        refused(eight, "8 roofs", -4, () -> eight.order(0, 0));
        refused(eight, "8 roofs, a missing row", -6, () -> eight.order(1, 0));
    }

    private static void wetted() {
        sentence(33, "WETTED by an order of ROOFS in another ROW. -2: a ROW; -6; -4: likewise;");
        ThatchNext w = told("roof;roof slate;roof reed 1;roof;");
        for (int row : new int[] {-1, 4}) {
            refused(w, "wetted(" + row + ", 0)", -2, () -> w.wetted(row, 0));
            refused(w, "wetted(0, " + row + ")", -2, () -> w.wetted(0, row));
        }
        refusedFar(w, "wetted()", -2, row -> w.wetted(row, 0));
        refusedFar(w, "order", -2, row -> w.wetted(0, row));
        refused(w, "both missing", -6, () -> w.wetted(0, 1));
        w.numbers(0, 0, 13);
        refused(w, "the order missing, 13 weeks", -6, () -> w.wetted(0, 1));
        refused(w, "the weeks missing", -6, () -> w.wetted(1, 0));
        fill(w, 1, 0, 3, 3, 3);
        refused(w, "13 weeks, a wrong order", -4, () -> w.wetted(0, 1));
        w.numbers(0, 0, 12);
        for (int i = 0; i < 12; i++) {
            w.write(0, i, 1);
        }
        fill(w, 1, 0, 3, 0, 2);
        due("12 weeks", w.wetted(0, 1), 4);
        fill(w, 1, 0, 2, 3, 0);
        due("the worst", w.wetted(0, 1), 3 + 3);
        ThatchNext tooMany = told(times(8, "roof;"), y -> fill(y, 0, 0, 1), y -> fill(y, 1, 0, 0, 1, 2, 3, 4, 5, 6, 7));
        refused(tooMany, "8 roofs", -4, () -> tooMany.wetted(0, 1));
        tooMany.slate(7);
        fill(tooMany, 1, 0, 0, 1, 2, 3, 4, 5, 6);
        due("7 roofs", tooMany.wetted(0, 1), 7);
    }

    private static void wettedByAWrongOrder() {
        ThatchNext w = told("roof;roof slate;roof reed 1;roof;", y -> y.numbers(0, 0, 12));
        sentence(33, "-3: the order has not each of these ROOFS once.");
        long[][] orders = {{}, {0, 2}, {0, 2, 2}, {0, 2, 1}, {0, 2, 4}, {0, 2, -1}, {0, 2, 3, 3}, {0, 2, 3, 1}, {0, 2, 3 + (1L << 32)},
            {Long.MIN_VALUE, 2, 3}, {0, 2, Long.MAX_VALUE}};
        for (long[] order : orders) {
            fill(w, 1, 3, order);
            refused(w, "order " + Arrays.toString(order), -3, () -> w.wetted(0, 1));
        }
        ThatchNext slates = told("roof slate;", y -> y.numbers(0, 0, 12), y -> y.numbers(1, 0, 0));
        due("of no roofs an empty one", slates.wetted(0, 1), 0);
    }

    // ---- Promises: what was

    private static void past() {
        sentence(34, "How many rows of sets are PAST. -3: m; -5: no IMAGE 0, or THE ROW was told anew since; -4: more than 4 ROOFS.");
        ThatchNext x = told(times(4, "roof reed 1;"));
        for (int m : new int[] {-1, 0, 4}) {
            refused(x, "past(" + m + ")", -3, () -> x.past(m));
        }
        refusedFar(x, "past()", -3, m -> x.past(m));
        refused(x, "no image", -5, () -> x.past(1));
        x.image(1);
        refused(x, "image 1 alone", -5, () -> x.past(3));
        x.image(0);
        due("none", x.past(1), 0);
        x.year(15);
        due("1 year", x.past(1), 1);
        x.year(15);
        x.year(15);
        due("3 years", x.past(3), 1);
        due("sure", x.sure(3, 2), 15);
        tell(x, "roof");
        due("a text with a fault", x.past(3), 1);
        x.row(1);
        due("one that isn't read", x.past(3), 1);
        tell(x, times(4, "roof reed 4;"));
        refused(x, "told anew", -5, () -> x.past(3));
        refused(x, "told anew", -3, () -> x.past(4));
        x.image(0);
        x.year(0);
        due("a new image", x.past(1), 1);
        ThatchNext bare = told("roof reed 0;roof reed 0;", y -> y.burn(0), y -> y.image(0), y -> y.year(1));
        due("a bare one stays bare", bare.past(1), 1);
        ThatchNext five = told(times(4, "roof;") + "roof slate;");
        refused(five, "five, no image", -5, () -> five.past(1));
        five.image(0);
        refused(five, "five", -4, () -> five.past(1));
        refused(five, "five, m", -3, () -> five.past(4));
    }

    private static void sure() {
        ThatchNext five = told(times(4, "roof;") + "roof slate;", x -> x.image(0));
        sentence(35, "SURE ones of the k-th YEAR (from 0 on), as bits (0: none are PAST). -3: m, k; -5; -4.");
        ThatchNext y = told("roof reed 1;roof slate;roof reed 1;roof reed 1;");
        for (int m : new int[] {-1, 0, 4}) {
            refused(y, "sure(" + m + ", 0)", -3, () -> y.sure(m, 0));
        }
        for (int m = 1; m <= 3; m++) {
            int years = m;
            refused(y, "sure(" + m + ", " + m + ")", -3, () -> y.sure(years, years));
            refused(y, "sure(" + m + ", -1)", -3, () -> y.sure(years, -1));
        }
        refusedFar(y, "sure()", -3, m -> y.sure(m, 0));
        refusedFar(y, "k", -3, k -> y.sure(3, k));
        refused(y, "no image", -5, () -> y.sure(1, 0));
        y.image(0);
        due("none are past", y.sure(1, 0), 0);
        y.year(13);
        y.year(1);
        y.year(13);
        // what roof 3 did in the first year it took off in the second: twice as many rows, and it isn't sure
        due("past", y.past(3), 2);
        dueAll("sure", new int[] {5, 1, 13}, k -> y.sure(3, k));
        due("none are past", y.sure(2, 0), 0);
        refused(five, "five", -4, () -> five.sure(1, 0));
        refused(five, "five, k", -3, () -> five.sure(1, 1));
    }

    private static void causes() {
        sentence(36, "CAUSES of a set, as bits (of an empty one all ROOFS). -3: a set with others than ROOFS.");
        due("no roofs", new ThatchNext().causes(0), 0);
        ThatchNext x = told("reed 1 1;" + times(9, "roof;") + "roof slate;");
        due("all ten", x.causes(0), 1023);
        x.year(0);
        x.year(511);
        due("sound ones are none", x.causes(1), 0);
        x.year(511);
        dueAll("each its own", new int[] {1, 2, 4, 8, 16, 32, 64, 128, 256, 0}, r -> x.causes(1 << r));
        due("both", x.causes(3), 0);
        due("with slate", x.causes(513), 0);
        refused(x, "causes(1024)", -3, () -> x.causes(1024));
        refused(x, "causes(1025)", -3, () -> x.causes(1025));
        refused(x, "causes(-1)", -3, () -> x.causes(-1));
        refusedFar(x, "causes()", -3, set -> x.causes(set));
    }

    private static void look() {
        sentence(37, "the least. NONE: fewer than 2 MIGHT be.");
        due("none", told("reed 1 1;roof reed 9;roof reed 9;").look(), -1);
        ThatchNext x = told("reed 1 1;" + times(9, "roof;"), y -> y.year(0), y -> y.year(511), y -> y.year(511));
        due("the first of like ones", x.look(), 0);
        for (int r = 0; r < 8; r++) {
            x.burn(r);
        }
        due("one", x.look(), -1);
        ThatchNext two = told("reed 1 1;roof slate;" + times(7, "roof;") + "roof reed 1;", y -> y.year(254), y -> y.year(254));
        two.mend(7, 0);
        two.mend(8, 0);
        two.year(510);
        two.year(510);
        due("two, the first roof that tells them apart", two.look(), 7);
        ThatchNext same = told("reed 1 1;" + times(10, "roof;"), y -> y.year(0), y -> y.year(0), y -> y.year(0));
        due("roofs of a longer row, of which none is left then", same.look(), 2);
        tell(same, "reed 1 1;deep 6;roof;roof;roof;");
        same.year(0);
        same.year(0);
        same.burn(0);
        same.year(6);
        same.burn(1);
        due("a told layer is from none", told("reed 1 1;roof reed 9;roof;", y -> y.year(1), y -> y.year(3), y -> y.year(3)).look(), -1);
        same.year(6);
        // roof 2 alone has what isn't sound, from 1 and 2: no roof tells these apart
        due("both might be", same.causes(4), 6);
        due("the least of like ones, though it tells nothing", same.look(), 0);
    }

    // ---- Promises: rows of numbers, images

    private static void numbers() {
        sentence("ROWS OF NUMBERS 0 to 3 are MISSING at first, or have 0 to 40 numbers of 8 bits (sort 0), 16 (1), 32 (2), 64 (3).");
        ThatchNext x = told("roof reed 1 reed 99 reed 0;roof slate;");
        for (int row = 0; row < 4; row++) {
            int missing = row;
            refused(x, "perform(" + row + ")", -6, () -> x.perform(missing));
        }

        sentence(38, "-2: no such ROW, sort; -3, and the ROW stays: n is below 0 or above 40.");
        for (int row : new int[] {-1, 4}) {
            refused(x, "numbers(" + row + ", 0, 1)", -2, () -> x.numbers(row, 0, 1));
            refused(x, "numbers(" + row + ", 0, 41)", -2, () -> x.numbers(row, 0, 41));
        }
        for (int sort : new int[] {-1, 4}) {
            refused(x, "numbers(0, " + sort + ", 1)", -2, () -> x.numbers(0, sort, 1));
            refused(x, "numbers(0, " + sort + ", 41)", -2, () -> x.numbers(0, sort, 41));
        }
        refused(x, "a missing row stays so", -3, () -> x.numbers(0, 0, 41));
        refused(x, "perform(0)", -6, () -> x.perform(0));
        for (int sort = 0; sort < 4; sort++) {
            due("40 of sort " + sort, x.numbers(sort, sort, 40), 0);
            due("the last", x.write(sort, 39, 2), 2);
            due("it can't be", x.judge(sort, 0), 39);
            int row = sort;
            for (int n : new int[] {-1, 41}) {
                refused(x, "numbers(" + row + ", 0, " + n + ")", -3, () -> x.numbers(row, 0, n));
            }
            due("its sort stays", x.write(row, 0, 1L << 40), row == 3 ? 1L << 40 : 0);
        }
        refusedFar(x, "numbers()", -2, row -> x.numbers(row, 0, 1));
        refusedFar(x, "sort", -2, sort -> x.numbers(0, sort, 1));
        refusedFar(x, "n", -3, n -> x.numbers(0, 0, n));
    }

    private static void numbersAnew() {
        ThatchNext x = told("roof;roof slate;", y -> fill(y, 0, 1, 2, 2, 2, 2, 2, 2));
        sentence(38, "A ROW OF NUMBERS has n numbers of a sort, all 0 (in place of another one): 0.");
        due("fewer", x.numbers(0, 0, 5), 0);
        due("all 0", x.judge(0, 0), -1);
        due("no sixth", x.write(0, 5, 1), -7);
        due("more", x.numbers(0, 3, 40), 0);
        due("all 0", x.judge(0, 0), -1);
        due("none", x.numbers(0, 3, 0), 0);
        due("no first", x.write(0, 0, 1), -7);
    }

    private static void write() {
        ThatchNext x = told("roof;");
        sentence(39, "Number i of a ROW OF NUMBERS is v, cut to its sort: as it is there.");
        long[] values = {0, 1, -1, 127, 128, -128, -129, 255, 256, 32767, 32768, -32768, -32769, 65535, 65536, (1L << 31) - 1, 1L << 31,
            -(1L << 31), -(1L << 31) - 1, (1L << 32) - 1, 1L << 32, Long.MAX_VALUE, Long.MIN_VALUE};
        for (int sort = 0; sort < 4; sort++) {
            x.numbers(sort, sort, 40);
            int unused = 64 - (8 << sort);
            for (long v : values) {
                due("write(" + sort + ", 39, " + v + ")", x.write(sort, 39, v), v << unused >> unused);
            }
        }

        sentence(39, "-2: no such ROW; -6; -7.");
        for (int i : new int[] {-1, 40}) {
            refused(x, "write(0, " + i + ", 1)", -7, () -> x.write(0, i, 1));
            refused(x, "write(4, " + i + ", 1)", -2, () -> x.write(4, i, 1));
            refused(x, "write(-1, " + i + ", 1)", -2, () -> x.write(-1, i, 1));
            refused(told("roof;"), "write to a missing row", -6, () -> new ThatchNext().write(3, i, 1));
        }
        refusedFar(x, "write()", -2, row -> x.write(row, 0, 1));
        refusedFar(x, "i", -7, i -> x.write(0, i, 1));
    }

    private static void copy() {
        sentence(40, "come into a ROW from its first place on, as many as it has places: how many. -2: the ROOF, the ROW; -6.");
        ThatchNext y = told("reed 1 1;deep 6;roof reed 1 reed 0 straw 1 reed 0 reed 1 reed 8;roof;roof slate;roof slate;");
        refused(y, "a missing row", -6, () -> y.copy(0, 0));
        for (int r : new int[] {-1, 4}) {
            refused(y, "copy(" + r + ", 0)", -2, () -> y.copy(r, 0));
            refused(y, "copy(0, " + r + ")", -2, () -> y.copy(0, r));
        }
        refusedFar(y, "copy()", -2, r -> y.copy(r, 0));
        refusedFar(y, "row", -2, row -> y.copy(0, row));
        for (int n = 0; n <= 8; n++) {
            y.numbers(0, 0, n);
            due("into " + n + " places", y.copy(0, 0), Math.min(n, 6));
            due("the sixth can't be", y.judge(0, 0), n < 6 ? -1 : 5);
        }
        fill(y, 0, 0, 4, 4, 4, 4, 4, 4, 64);
        due("six of seven", y.copy(0, 0), 6);
        due("the sixth can't be", y.judge(0, 1), 2);
        y.write(0, 5, 0);
        due("the seventh is as it was", y.judge(0, 0), 6);
        due("of a bare one", y.copy(1, 0), 0);
        due("of slate", y.copy(2, 0), 0);
        due("the seventh is as it was", y.judge(0, 0), 6);
        ThatchNext z = told("roof reed 7 reed 7;roof straw 5 reed 0;roof;roof slate;", x -> fill(x, 3, 0, 8, 8, 8));
        due("of another roof into another row", z.copy(1, 3), 2);
        due("the third is as it was", z.judge(3, 0), 2);
        due("the first lets two skip, the second none", z.judge(3, 3), 1 + 3);
    }

    private static void image() {
        sentence("IMAGES 0 to 1: THE ROW and all as it stands (none at first).");
        ThatchNext x = told("deep 4;roof reed 1 mice 3;roof slate;");
        refused(x, "restore(0)", -5, () -> x.restore(0));
        refused(x, "restore(1)", -5, () -> x.restore(1));

        sentence(41, "An IMAGE is made: 0. -2.");
        for (int i : new int[] {-1, 2}) {
            refused(x, "image(" + i + ")", -2, () -> x.image(i));
        }
        refusedFar(x, "image()", -2, i -> x.image(i));
        due("image(1)", x.image(1), 0);
        refused(x, "image 0 is still none", -5, () -> x.restore(0));
        due("image(0)", x.image(0), 0);
    }

    private static void restore() {
        ThatchNext x = told("deep 4;roof reed 1 mice 3;roof slate;", y -> y.image(0), y -> y.image(1));
        sentence(42, "All that is in an IMAGE is as it was: 0. -2; -5: none was made.");
        long[] before = stateOf(x);
        x.cat(0);
        x.spark(0);
        x.mice(0, 9);
        x.year(1);
        x.mend(0, 1);
        x.slate(0);
        due("restore(0)", x.restore(0), 0);
        due("as it was, place", Arrays.mismatch(before, stateOf(x)), -1);
        x.year(0);
        long[] behind = stateOf(x);
        x.image(0);
        tell(x, "ring;deep 6;reed 1 2;odds 2;" + times(10, "roof" + times(6, " reed 9 wet") + ";"));
        x.year(0);
        due("restore(1)", x.restore(1), 0);
        due("as it was, place", Arrays.mismatch(before, stateOf(x)), -1);
        due("restore(0)", x.restore(0), 0);
        due("as it was, place", Arrays.mismatch(behind, stateOf(x)), -1);
        due("once more", x.restore(0), 0);
        for (int i : new int[] {-1, 2}) {
            refused(x, "restore(" + i + ")", -2, () -> x.restore(i));
        }
        refusedFar(x, "restore()", -2, i -> x.restore(i));
        ThatchNext empty = new ThatchNext();
        empty.image(1);
        tell(empty, "roof;");
        due("an image without roofs", empty.restore(1) + empty.count(0), 0);
    }

    private static void count() {
        sentence(43, "13 wet LAYERS. NONE for others.");
        ThatchNext x = told("ring;deep 6;reed 30 1;odds 6;" + times(10, "roof" + times(6, " reed9wet") + ";"));
        dueAll("count", new int[] {10, 0, 6, 30, 1, 6, 60, 0, 0, 0, 1, 0, 14, 60}, what -> x.count(what));
        for (int what : new int[] {-1, 14}) {
            refused(x, "count(" + what + ")", -1, () -> x.count(what));
        }
        refusedFar(x, "count()", -1, what -> x.count(what));

        due("wet ones", told("roof;roof reed 1 reed 1 wet reed 1 wet;roof reed 1 wet;").count(13), 3);

        sentence(43, "9 new LAYERS laid since THE ROW was told");
        x.year(1);
        due("nine lay", x.count(9), 9);
        x.mend(0, 0);
        due("one mended", x.count(9), 10);
        x.slate(3);
        due("what went was laid", x.count(9), 10);
        tell(x, "roof;");
        due("told anew", x.count(9), 0);
    }
}
