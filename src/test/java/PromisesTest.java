import java.nio.charset.StandardCharsets;
import java.util.Arrays;

/** Each promise of the document by hand: ordinary inputs, the edges it names, and what it refuses. */
public final class PromisesTest {
    private static int wrong = 0;
    private static int promise = 0;

    private static void due(String call, long got, long want) {
        if (got != want) {
            wrong++;
            System.out.println("promise " + promise + ": " + call + " answered " + got + ", due is " + want);
        }
    }

    private static void feedText(ThatchNext x, String text) {
        byte[] bytes = text.getBytes(StandardCharsets.ISO_8859_1);
        for (int i = 0; i < bytes.length; i += 20) {
            byte[] block = Arrays.copyOf(Arrays.copyOfRange(bytes, i, Math.min(bytes.length, i + 20)), 20);
            int[] ints = new int[5];
            for (int k = 0; k < 20; k++) {
                ints[k / 4] = ints[k / 4] << 8 | block[k] & 255;
            }
            x.feed(ints[0], ints[1], ints[2], ints[3], ints[4]);
        }
    }

    private static int tell(ThatchNext x, String text) {
        feedText(x, text);
        return x.row(text.length());
    }

    private static ThatchNext told(String text) {
        ThatchNext x = new ThatchNext();
        int lines = tell(x, text);
        if (lines < 0) {
            due("row() of \"" + text + "\"", lines, 0);
        }
        return x;
    }

    private static void fill(ThatchNext x, int row, int sort, long... values) {
        due("numbers(" + row + ")", x.numbers(row, sort, values.length), 0);
        for (int i = 0; i < values.length; i++) {
            x.write(row, i, values[i]);
        }
    }

    private static void faulty(String text, int kind, int place) {
        ThatchNext x = told("roof reed 3;");
        String call = "\"" + text + "\": ";
        due(call + "row()", tell(x, text), -30 - kind);
        due(call + "fault(0)", x.fault(0), kind);
        due(call + "fault(1)", x.fault(1), place);
        due(call + "count(0)", x.count(0), 1);
        due(call + "layer(0, 0, 0)", x.layer(0, 0, 0), 3);
        due(call + "count(11)", x.count(11), 0);
    }

    public static void main(String[] args) {
        newObject();
        fullVillage();
        feed();
        row();
        fault();
        roof();
        layer();
        year();
        rain();
        judge();
        perform();
        drawn();
        leaks();
        leaksIn();
        spread();
        mend();
        slate();
        burn();
        harm();
        may();
        laziest();
        harms();
        dry();
        cat();
        mice();
        miceIn();
        cats();
        spark();
        sparkIn();
        odds();
        outOf();
        open();
        order();
        wetted();
        past();
        sure();
        causes();
        look();
        numbers();
        write();
        copy();
        image();
        restore();
        count();
        System.out.println(wrong == 0 ? "all promises hold" : wrong + " answers are not as due");
        if (wrong != 0) {
            System.exit(1);
        }
    }

    private static void newObject() {
        promise = 1;
        ThatchNext x = new ThatchNext();
        int[] counts = {0, 0, 3, 8, 4, 4, 0, 0, 0, 0, 0, 0, 0, 0};
        for (int what = 0; what < counts.length; what++) {
            due("count(" + what + ")", x.count(what), counts[what]);
        }
        due("leaks()", x.leaks(), 0);
        due("roof(0, 0)", x.roof(0, 0), -2);
        due("year(0)", x.year(0), 0);
        due("count(1)", x.count(1), 1);
        due("NONE", ThatchNext.NONE, -1);
    }

    /** Ten roofs of six layers, and then few: no call looks beyond what there is. */
    private static void fullVillage() {
        StringBuilder text = new StringBuilder("deep 6;reed 1 1;ring;");
        for (int r = 0; r < 10; r++) {
            text.append("roof");
            for (int d = 0; d < 6; d++) {
                text.append(" reed ").append(d).append(r == 9 ? " wet mice 1 spark" : "");
            }
            text.append(';');
        }
        ThatchNext x = told(text.toString());
        int[] counts = {10, 0, 6, 1, 1, 4, 60, 6, 6, 0, 1, 0, 13, 6};
        for (int what = 0; what < counts.length; what++) {
            due("count(" + what + ")", x.count(what), counts[what]);
        }
        for (int r = 0; r < 10; r++) {
            x.mice(r, 99);
        }
        due("cats(1)", x.cats(1), 1023);
        due("cats(5)", x.cats(5), 33);
        due("may(1)", x.may(1), 511);
        due("laziest(12)", x.laziest(12), 511);
        due("causes(0)", x.causes(0), 1023);
        due("look()", x.look(), -1);
        due("rain()", x.rain(), 0);
        due("year(1023)", x.year(1023), 512);
        for (int y = 0; y < 5; y++) {
            due("year(0)", x.year(0), 0);
        }
        due("spread(9)", x.spread(9), 527);
        due("causes(1)", x.causes(1), 448);
        due("all might be", x.look(), 0);
        due("sparkIn(0, 30)", x.sparkIn(0, 30), -1);
        due("copy()", x.numbers(3, 0, 40) + x.copy(9, 3), 6);
        due("few", tell(x, "roof;reed 1 1;ring;"), 3);
        int[] few = {1, 0, 3, 1, 1, 4, 0, 0, 0, 0, 1, 0, 3, 0};
        for (int what = 0; what < few.length; what++) {
            due("count(" + what + ")", x.count(what), few[what]);
        }
        due("spread(0)", x.spread(0), 0);
        due("causes(1)", x.causes(1), 0);
        due("look()", x.look(), -1);
        due("rain()", x.rain(), 0);
        due("leaks()", x.leaks(), 1);
        due("open(6)", x.open(6), -1);
        due("sparkIn(0, 0)", x.sparkIn(0, 0), -2);
        due("cats(1)", x.cats(1), 0);
    }

    private static void feed() {
        promise = 2;
        ThatchNext x = new ThatchNext();
        for (int i = 1; i <= 45; i++) {
            due("feed()", x.feed(0x20202020, 0x20202020, 0x20202020, 0x20202020, 0x0a0a0a0a), 20 * i);
        }
        due("feed() beyond 900", x.feed(0, 0, 0, 0, 0), -5);
        due("count(11)", x.count(11), 900);
        due("row(900)", x.row(900), 0);
        due("feed()", x.feed(0x72696e67, 0x3b6f6464, 0x7320353b, 0x726f6f66, 0x3b808080), 20);
        due("row(17)", x.row(17), 3);
        due("count(5)", x.count(5), 5);
        due("count(10)", x.count(10), 1);
    }

    private static void row() {
        promise = 3;
        ThatchNext x = new ThatchNext();
        feedText(x, "roof reed 4;roof;ring;");
        due("row(-1)", x.row(-1), -3);
        due("row(41)", x.row(41), -3);
        due("row(min)", x.row(Integer.MIN_VALUE), -3);
        due("count(11)", x.count(11), 40);
        due("row(12)", x.row(12), 1);
        due("count(0)", x.count(0), 1);
        due("count(11)", x.count(11), 0);
        x.cat(0);
        x.year(0);
        due("row()", tell(x, "roof reed 4;roof;"), 2);
        due("count(1)", x.count(1), 0);
        due("count(9)", x.count(9), 0);
        due("roof(0, 6)", x.roof(0, 6), 0);
        due("roof(0, 7)", x.roof(0, 7), 0);
        x.cat(0);
        x.year(0);
        due("row() with a fault", tell(x, "roof reed 5"), -32);
        due("count(1)", x.count(1), 1);
        due("roof(0, 6)", x.roof(0, 6), 1);
        due("count(11)", x.count(11), 0);
        due("settings of old are gone", tell(x, "deep 6;reed 1 2;odds 6;ring;"), 4);
        due("row(0)", x.row(0), 0);
        due("count(2)", x.count(2), 3);
        due("count(3)", x.count(3), 8);
        due("count(4)", x.count(4), 4);
        due("count(5)", x.count(5), 4);
        due("count(10)", x.count(10), 0);
        due("later ones strike", tell(x, "deep 2;deep 5;reed 1 2;roof;reed 30 29;odds 2;odds 3;"), 7);
        due("count(2)", x.count(2), 5);
        due("count(3)", x.count(3), 30);
        due("count(4)", x.count(4), 29);
        due("count(5)", x.count(5), 3);
        due("tokens without blanks", tell(x, "roof reed7wet mice9spark\nstraw 007;"), 1);
        due("layer(0, 0, 0)", x.layer(0, 0, 0), 7);
        due("layer(0, 0, 3)", x.layer(0, 0, 3), 9);
        due("layer(0, 0, 4)", x.layer(0, 0, 4), 1);
        due("layer(0, 1, 0)", x.layer(0, 1, 0), 7);
        due("nothing of old is left", tell(x, "roof;"), 1);
        due("roof(0, 0)", x.roof(0, 0), 0);
        feedText(x, "odds 44;");
        due("no byte behind n is read", x.row(6), -32);
        due("fault(1)", x.fault(1), 6);
        feedText(x, "ring;");
        due("no letter behind n is read", x.row(3), -32);
        due("fault(1)", x.fault(1), 0);
    }

    private static void fault() {
        promise = 4;
        ThatchNext x = new ThatchNext();
        due("fault(0)", x.fault(0), 0);
        due("fault(1)", x.fault(1), -1);
        due("fault(2)", x.fault(2), -1);
        due("fault(-1)", x.fault(-1), -1);
        due("row()", tell(x, "roof straw;"), -32);
        due("row(1)", x.row(1), -3);
        due("fault(0)", x.fault(0), 2);
        due("fault(1)", x.fault(1), 10);
        due("row(0)", x.row(0), 0);
        due("fault(0)", x.fault(0), 0);
        due("fault(1)", x.fault(1), -1);
        faulty("ring:", 1, 4);
        faulty("Ring;", 1, 0);
        faulty("ring;\u00e9", 1, 5);
        faulty("ring\t;", 1, 4);
        faulty("odds 1000;", 1, 5);
        faulty("roof;12345", 1, 5);
        faulty(";", 2, 0);
        faulty("ring;;", 2, 5);
        faulty("ring", 2, 4);
        faulty("ring \n ", 2, 7);
        faulty("roof", 2, 4);
        faulty("roof reed 1 mice", 2, 16);
        faulty("slate;", 2, 0);
        faulty("straw 3;", 2, 0);
        faulty("roofs;", 2, 0);
        faulty("roo;", 2, 0);
        faulty("poof;", 2, 0);
        faulty("roog;", 2, 0);
        faulty("roofz;", 2, 0);
        faulty("deep ring;", 2, 5);
        faulty("reed 3;", 2, 6);
        faulty("reed 3 4 5;", 2, 9);
        faulty("roof reed 1 wet wet;", 2, 16);
        faulty("roof reed 1 mice 4 wet;", 2, 19);
        faulty("roof wet;", 2, 5);
        faulty("roof slate slate;", 2, 11);
        faulty("roof reed 3 slate;", 2, 12);
        faulty("roof slate straw 3;", 2, 11);
        faulty("roof;deep 3;", 2, 5);
        faulty("roof;deep ,", 2, 5);
        faulty("roof reed 999;", 3, 10);
        faulty("roof reed 100,", 3, 10);
        faulty("deep 7", 3, 5);
        faulty("deep 0;", 3, 5);
        faulty("reed 31 1;", 3, 5);
        faulty("reed 30 0;", 3, 8);
        faulty("odds 1;", 3, 5);
        faulty("odds 7;", 3, 5);
        faulty("roof reed 0 mice 100;", 3, 17);
        faulty("roof;roof;roof;roof;roof;roof;roof;roof;roof;roof;roof,", 4, 50);
        faulty("deep 1;roof reed 1 straw 200;", 4, 19);
        faulty("deep 6;roof reed 1 reed 1 reed 1 reed 1 reed 1 reed 1 reed 1;", 4, 54);
    }

    private static void roof() {
        promise = 5;
        ThatchNext x = told("roof reed 8 mice 4 reed 9 mice 99;roof slate;roof straw 5 mice 1;roof;");
        int[][] wants = {{2, 0, -1, 0, 1, 103, 0, 0}, {0, 1, 0, 0, 0, 0, 0, 0}, {1, 0, 1, 1, 0, 1, 0, 0}, {0, 0, 2, 1, 0, 0, 0, 0}};
        for (int r = 0; r < 4; r++) {
            for (int what = 0; what < 8; what++) {
                due("roof(" + r + ", " + what + ")", x.roof(r, what), wants[r][what]);
            }
        }
        due("roof(4, 0)", x.roof(4, 0), -2);
        due("roof(-1, 0)", x.roof(-1, 0), -2);
        due("roof(0, 8)", x.roof(0, 8), -2);
        due("roof(0, -1)", x.roof(0, -1), -2);
        x.cat(2);
        x.year(0);
        due("roof(2, 6)", x.roof(2, 6), 1);
        due("roof(2, 7)", x.roof(2, 7), 1);
        due("roof(1, 7)", x.roof(1, 7), 0);
        due("giver in a ring of two", told("roof;roof;ring;").roof(0, 2), 1);
        due("giver in a ring of one", told("roof;ring;").roof(0, 2), -1);
    }

    private static void layer() {
        promise = 6;
        ThatchNext x = told("reed 3 2;roof reed 3 wet mice 5 spark straw 3;roof reed 4;");
        int[][] wants = {{3, 0, 1, 5, 1, -1, 1}, {3, 1, 0, 0, 0, -1, 0}};
        for (int d = 0; d < 2; d++) {
            for (int what = 0; what < 7; what++) {
                due("layer(0, " + d + ", " + what + ")", x.layer(0, d, what), wants[d][what]);
            }
        }
        due("layer(1, 0, 6)", x.layer(1, 0, 6), 0);
        due("layer(2, 0, 0)", x.layer(2, 0, 0), -2);
        due("layer(0, 9, 7)", x.layer(0, 9, 7), -2);
        due("layer(0, 0, -1)", x.layer(0, 0, -1), -2);
        due("layer(0, 2, 0)", x.layer(0, 2, 0), -5);
        due("layer(0, -1, 0)", x.layer(0, -1, 0), -5);
        x.year(0);
        due("layer(1, 0, 5)", x.layer(1, 0, 5), 1);
        due("layer(1, 1, 5)", x.layer(1, 1, 5), -1);
        due("a wet one is two older", x.layer(1, 1, 0), 5);
        due("its mice are twice as many", x.layer(1, 1, 3), 10);
        due("its spark goes along", x.layer(1, 1, 4), 1);
        due("it stays wet", x.layer(1, 1, 2), 1);
        due("a dry one is one older", x.layer(1, 2, 0), 4);
        x.year(0);
        due("from next door", x.layer(1, 1, 5), 0);
    }

    private static void year() {
        promise = 7;
        ThatchNext x = told("deep 2;roof reed 8 reed 99 wet;roof straw 1;roof slate;roof reed 2 mice 60;");
        due("year(16)", x.year(16), -3);
        due("year(4)", x.year(4), -3);
        due("year(-1)", x.year(-1), -3);
        due("roof 0 skips: it leaks", x.year(1), 1);
        due("its first is older", x.layer(0, 0, 0), 9);
        due("99 at most", x.layer(0, 1, 0), 99);
        due("as deep as there is room", x.roof(1, 0), 2);
        due("own ones below, if the giver skips", x.layer(1, 1, 1), 1);
        due("nothing from slate", x.roof(3, 0), 1);
        due("slate takes nothing", x.roof(2, 0), 0);
        due("year(2)", x.year(2), 0);
        due("none without a giver", x.roof(0, 0), 1);
        due("who skips keeps all", x.layer(1, 1, 0), 3);
        due("year(0)", x.year(0), 0);
        due("as they were, all at once", x.layer(1, 1, 0), 1);
        ThatchNext full = told("deep 2;roof reed 1 reed 2;roof reed 3 reed 4;roof reed 5;");
        full.year(2);
        due("no deeper than deep", full.roof(1, 0), 2);
        full.year(4);
        due("no deeper than deep", full.roof(1, 0), 2);
        full.year(0);
        due("no deeper than deep", full.roof(2, 0), 2);
        due("count(1)", x.count(1), 3);

        ThatchNext ring = told("ring;deep 3;roof reed 1;roof reed 2;roof reed 3;");
        ring.year(2);
        due("the ring goes round", ring.layer(0, 1, 0), 4);
        due("roof 2 keeps its own", ring.layer(2, 1, 0), 4);
        due("one that skips", ring.roof(1, 0), 1);

        ThatchNext mice = told("roof reed 1 mice 60;roof;");
        mice.year(0);
        due("99 mice at most", mice.layer(1, 1, 3), 99);
        ThatchNext cats = told("roof reed 1 mice 60;roof reed 1 mice 7;");
        cats.cat(0);
        cats.cat(1);
        cats.year(1);
        due("a cat where one skips", cats.roof(0, 5), 0);
        due("a cat where one lays", cats.roof(1, 5), 0);

        ThatchNext old = new ThatchNext();
        for (int i = 0; i < 33; i++) {
            old.drawn(i, 30);
        }
        for (int i = 0; i < 9; i++) {
            due("year(0)", old.year(0), 0);
        }
        due("count(1)", old.count(1), 999);
        due("year(0)", old.year(0), -5);
        due("year(1)", old.year(1), -3);
        due("count(1)", old.count(1), 999);
    }

    private static void rain() {
        promise = 8;
        ThatchNext x = told("roof reed 9 straw 5 wet reed 8;roof reed 8 reed 9;roof reed 9 reed 10;roof slate;roof;");
        due("rain()", x.rain(), 3);
        due("to the first sound one", x.layer(0, 2, 2), 0);
        due("it stays as it is", x.layer(1, 0, 2), 0);
        due("none below it", x.layer(1, 1, 2), 0);
        due("rain()", x.rain(), 0);
        due("count(13)", x.count(13), 4);
        due("rain() on none", new ThatchNext().rain(), 0);
        due("a sound one that is wet", told("roof reed 1 wet reed 9;").rain(), 0);
    }

    private static void judge() {
        promise = 9;
        ThatchNext x = told("roof reed 8;roof slate;roof reed 8;");
        due("judge(4, 0)", x.judge(4, 0), -2);
        due("judge(-1, 0)", x.judge(-1, 0), -2);
        due("judge(0, 4)", x.judge(0, 4), -2);
        due("judge(0, -1)", x.judge(0, -1), -2);
        due("judge(0, 0)", x.judge(0, 0), -6);
        fill(x, 0, 3, 1, 4, 8, 0);
        int[] wants = {2, 1, 0, 2};
        fill(x, 1, 3, 5, 2);
        int[] slates = {1, 2, 5, 0};
        fill(x, 2, 3, 0, 5);
        int[] fine = {-1, 0, 0, 2};
        fill(x, 3, 3);
        int[] empty = {-1, 0, 0, 0};
        for (int what = 0; what < 4; what++) {
            due("judge(0, " + what + ")", x.judge(0, what), wants[what]);
            due("judge(1, " + what + ")", x.judge(1, what), slates[what]);
            due("judge(2, " + what + ")", x.judge(2, what), fine[what]);
            due("judge(3, " + what + ")", x.judge(3, what), empty[what]);
        }
        fill(x, 0, 3, 1L << 32);
        due("a set far beyond", x.judge(0, 1), 1);
        fill(x, 0, 3, Long.MIN_VALUE);
        due("a set far below", x.judge(0, 1), 1);
        fill(x, 0, 0, 10);
        due("others ahead of slate", x.judge(0, 1), 1);
        x.numbers(0, 0, 40);
        due("forty years", x.judge(0, 1), 0);
        due("forty years", x.judge(0, 3), 80);
        due("count(1)", x.count(1), 0);
        due("count(9)", x.count(9), 0);

        ThatchNext late = told("roof;roof slate;");
        for (int i = 0; i < 33; i++) {
            late.drawn(i, 30);
        }
        fill(late, 0, 0, 0, 0, 0, 0, 0, 0, 0, 0, 0, 0);
        due("the year is 999", late.judge(0, 0), 9);
        due("why", late.judge(0, 1), 3);
        late.write(0, 9, 2);
        due("slate ahead of that", late.judge(0, 1), 2);
        due("judge(0, 3)", late.judge(0, 3), 9);
    }

    private static void perform() {
        promise = 10;
        ThatchNext x = told("roof reed 8;roof reed 8;");
        due("perform(4)", x.perform(4), -2);
        due("perform(-1)", x.perform(-1), -2);
        due("perform(1)", x.perform(1), -6);
        fill(x, 1, 1, 1, 0, 4, 0);
        due("perform(1)", x.perform(1), 2);
        due("count(1)", x.count(1), 2);
        due("count(9)", x.count(9), 3);
        due("layer(1, 1, 0)", x.layer(1, 1, 0), 10);
        fill(x, 1, 1);
        due("perform(1)", x.perform(1), 0);
    }

    private static void drawn() {
        promise = 11;
        ThatchNext x = told("roof reed 8;roof slate;roof reed 8;");
        due("drawn(1, 0)", x.drawn(1, 0), -3);
        due("drawn(1, 31)", x.drawn(1, 31), -3);
        ThatchNext y = told("roof reed 8;roof slate;roof reed 8;");
        int draw = 77;
        int wet = 0;
        for (int i = 0; i < 30; i++) {
            int skips = 0;
            for (int r = 0; r < 3; r += 2) {
                draw = 1103515245 * draw + 12345;
                skips |= (draw >>> 16) % 4 == 0 ? 1 << r : 0;
            }
            y.year(skips);
            draw = 1103515245 * draw + 12345;
            wet += (draw >>> 16) % 2 == 1 ? y.rain() : 0;
        }
        due("drawn(77, 30)", x.drawn(77, 30), wet);
        for (int r = 0; r < 3; r++) {
            for (int what = 0; what < 8; what++) {
                due("roof(" + r + ", " + what + ")", x.roof(r, what), y.roof(r, what));
            }
        }
        due("count(1)", x.count(1), 30);
        due("drawn(-5, 1)", told("reed 1 1;roof reed 2;").drawn(-5, 1) >= 0 ? 1 : 0, 1);
        for (int i = 0; i < 32; i++) {
            x.drawn(i, 30);
        }
        due("count(1)", x.count(1), 990);
        due("drawn(1, 10)", x.drawn(1, 10), -5);
        due("drawn(1, 31)", x.drawn(1, 31), -3);
        due("count(1)", x.count(1), 990);
        due("count(1)", x.drawn(1, 9) >= 0 ? x.count(1) : -1, 999);
    }

    private static void leaks() {
        promise = 12;
        due("leaks()", told("roof reed 8;roof reed 9 straw 5;roof slate;roof;roof reed 9 straw 4;").leaks(), 10);
        due("leaks()", told("reed 9 4;roof reed 9;roof straw 4 wet;roof reed 10;").leaks(), 4);
        due("leaks()", told("roof;roof;roof;roof;roof;roof;roof;roof;roof;roof;").leaks(), 1023);
    }

    private static void leaksIn() {
        promise = 13;
        ThatchNext x = told("roof reed 9;roof reed 1;roof slate;roof;");
        due("leaksIn(0)", x.leaksIn(0), 0);
        due("leaksIn(1)", x.leaksIn(1), -1);
        due("leaksIn(2)", x.leaksIn(2), -1);
        due("leaksIn(3)", x.leaksIn(3), 0);
        due("leaksIn(4)", x.leaksIn(4), -2);
        due("leaksIn(-1)", x.leaksIn(-1), -2);
        due("count(1)", x.count(1), 0);
        due("layer(0, 0, 0)", x.layer(0, 0, 0), 9);
    }

    private static void spread() {
        promise = 14;
        ThatchNext x = told("roof reed 1;roof;roof;roof;");
        due("told ones are from none", x.spread(0), 0);
        x.year(0);
        due("spread(0)", x.spread(0), 1);
        x.year(0);
        x.year(8);
        due("spread(0)", x.spread(0), 7);
        due("spread(2)", x.spread(2), 12);
        due("spread(3)", x.spread(3), 8);
        due("spread(4)", x.spread(4), -2);
        due("spread(-1)", x.spread(-1), -2);
    }

    private static void mend() {
        promise = 15;
        ThatchNext x = told("roof reed 9 wet mice 3 spark straw 4;roof slate;roof;");
        due("mend(3, 0)", x.mend(3, 0), -2);
        due("mend(0, 2)", x.mend(0, 2), -2);
        due("mend(1, 2)", x.mend(1, 2), -2);
        due("mend(0, -1)", x.mend(0, -1), -2);
        due("mend(1, 0)", x.mend(1, 0), -5);
        due("mend(0, 1)", x.mend(0, 1), 9);
        int[] wants = {0, 1, 0, 0, 0, 0, 1};
        for (int what = 0; what < 7; what++) {
            due("layer(0, 0, " + what + ")", x.layer(0, 0, what), wants[what]);
        }
        due("layer(0, 1, 0)", x.layer(0, 1, 0), 4);
        due("roof(0, 0)", x.roof(0, 0), 2);
        due("mend(2, 0)", x.mend(2, 0), -1);
        due("roof(2, 0)", x.roof(2, 0), 1);
        due("layer(2, 0, 1)", x.layer(2, 0, 1), 0);
        due("layer(2, 0, 5)", x.layer(2, 0, 5), 2);
        due("roof(2, 7)", x.roof(2, 7), 1);
        due("count(9)", x.count(9), 2);
    }

    private static void slate() {
        promise = 16;
        ThatchNext x = told("roof reed 9 straw 4 spark;roof reed 1;");
        due("slate(2)", x.slate(2), -2);
        due("slate(-1)", x.slate(-1), -2);
        due("slate(0)", x.slate(0), 2);
        due("slate(0)", x.slate(0), -5);
        due("roof(0, 0)", x.roof(0, 0), 0);
        due("roof(0, 1)", x.roof(0, 1), 1);
        due("roof(0, 3)", x.roof(0, 3), 0);
        due("count(7)", x.count(7), 0);
        x.year(0);
        due("it gives nothing", x.roof(1, 0), 1);
    }

    private static void burn() {
        promise = 17;
        ThatchNext x = told("roof reed 9 spark straw 4 spark reed 1;roof slate;roof reed 1 spark;");
        due("burn(3)", x.burn(3), -2);
        due("burn(-1)", x.burn(-1), -2);
        due("burn(1)", x.burn(1), -5);
        due("burn(0)", x.burn(0), 2);
        due("roof(0, 0)", x.roof(0, 0), 0);
        due("leaks()", x.leaks(), 1);
        due("count(7)", x.count(7), 1);
        due("burn(0)", x.burn(0), 0);
    }

    private static void harm() {
        promise = 18;
        ThatchNext x = told("roof reed 8;roof reed 7;roof slate;roof straw 3 wet;roof;");
        due("harm(0, 1)", x.harm(0, 1), 0);
        due("harm(1, 1)", x.harm(1, 1), 1);
        due("harm(1, 12)", x.harm(1, 12), 1);
        due("harm(2, 12)", x.harm(2, 12), 0);
        due("harm(8, 3)", x.harm(8, 3), 1);
        due("harm(27, 2)", x.harm(27, 2), 3);
        due("harm(4, 1)", x.harm(4, 1), -3);
        due("harm(32, 1)", x.harm(32, 1), -3);
        due("harm(-1, 1)", x.harm(-1, 1), -3);
        due("harm(1, 0)", x.harm(1, 0), -3);
        due("harm(1, 13)", x.harm(1, 13), -3);
        due("count(1)", x.count(1), 0);
        due("count(13)", x.count(13), 1);
        for (int i = 0; i < 33; i++) {
            x.drawn(i, 30);
        }
        for (int i = 0; i < 9; i++) {
            x.year(0);
        }
        x.burn(0);
        due("year 999 aside", x.harm(1, 12), 1);
    }

    private static void may() {
        promise = 19;
        ThatchNext x = told("roof reed 8;roof reed 7;roof slate;roof straw 3;roof;");
        due("may(1)", x.may(1), 10);
        due("may(12)", x.may(12), 10);
        due("may(0)", x.may(0), -3);
        due("may(13)", x.may(13), -3);
    }

    private static void laziest() {
        promise = 20;
        ThatchNext x = told("ring;roof reed 1;roof reed 7;roof slate;roof straw 3 wet;roof reed 8 straw 3;");
        due("laziest(1)", x.laziest(1), 19);
        due("laziest(12)", x.laziest(12), 19);
        due("laziest(0)", x.laziest(0), -3);
        due("laziest(13)", x.laziest(13), -3);
    }

    private static void harms() {
        promise = 21;
        ThatchNext x = told("roof reed 8;roof reed 8;roof slate;");
        due("harms(1, 0, 1)", x.harms(1, 0, 1), 1);
        due("harms(1, 1, 12)", x.harms(1, 1, 12), 0);
        due("harms(3, 1, 12)", x.harms(3, 1, 12), 1);
        due("harms(3, 2, 1)", x.harms(3, 2, 1), 0);
        due("harms(8, 3, 0)", x.harms(8, 3, 0), -2);
        due("harms(1, -1, 1)", x.harms(1, -1, 1), -2);
        due("harms(4, 0, 1)", x.harms(4, 0, 1), -3);
        due("harms(8, 0, 1)", x.harms(8, 0, 1), -3);
        due("harms(1, 0, 0)", x.harms(1, 0, 0), -3);
        due("harms(1, 0, 13)", x.harms(1, 0, 13), -3);
    }

    private static void dry() {
        promise = 22;
        ThatchNext x = told("reed 2 1;roof reed 2;roof reed 1;roof slate;");
        due("dry(1, 0)", x.dry(1, 0), 1);
        due("dry(1, 10)", x.dry(1, 10), 2);
        due("dry(2, 0)", x.dry(2, 0), 2);
        due("dry(2, 10)", x.dry(2, 10), 0);
        due("dry(2, 11)", x.dry(2, 11), 3);
        due("dry(2, 12)", x.dry(2, 12), -1);
        // roof 0 must lay in the first year, roof 1 in the second: the first like row lets both lay then
        due("dry(4, 0)", x.dry(4, 0), 3);
        due("dry(4, 10)", x.dry(4, 10), 2);
        due("dry(4, 11)", x.dry(4, 11), 0);
        due("dry(4, 12)", x.dry(4, 12), 3);
        due("dry(4, 13)", x.dry(4, 13), 3);
        due("dry(5, 14)", x.dry(5, 14), -2);
        due("dry(1, 9)", x.dry(1, 9), -2);
        due("dry(1, 1)", x.dry(1, 1), -2);
        due("dry(1, -1)", x.dry(1, -1), -2);
        due("dry(0, 0)", x.dry(0, 0), -3);
        due("dry(5, 0)", x.dry(5, 0), -3);
        due("all may skip", told("roof reed 1;roof reed 1;roof reed 1;roof reed 1;").dry(4, 10), 15);
        ThatchNext five = told("roof slate;roof;roof;roof;roof;");
        due("dry(1, 0)", five.dry(1, 0), -4);
        due("dry(0, 0)", five.dry(0, 0), -3);
        due("count(9)", x.count(9), 0);
    }

    private static void cat() {
        promise = 23;
        ThatchNext x = told("roof reed 1 mice 4;roof slate;");
        due("cat(2)", x.cat(2), -2);
        due("cat(-1)", x.cat(-1), -2);
        due("cat(1)", x.cat(1), -5);
        due("cat(0)", x.cat(0), 1);
        due("mice stay for now", x.count(8), 4);
        due("cat(0)", x.cat(0), 0);
        due("roof(0, 6)", x.roof(0, 6), 0);
    }

    private static void mice() {
        promise = 24;
        ThatchNext x = told("roof reed 1 reed 2;roof slate;roof;");
        due("mice(3, 0)", x.mice(3, 0), -2);
        due("mice(2, 0)", x.mice(2, 0), -3);
        due("mice(0, 100)", x.mice(0, 100), -3);
        due("mice(0, -1)", x.mice(0, -1), -3);
        due("mice(1, 1)", x.mice(1, 1), -5);
        due("mice(2, 1)", x.mice(2, 1), -5);
        due("mice(0, 60)", x.mice(0, 60), 60);
        due("mice(0, 60)", x.mice(0, 60), 99);
        due("mice(0, 99)", x.mice(0, 99), 99);
        due("layer(0, 0, 3)", x.layer(0, 0, 3), 99);
        due("layer(0, 1, 3)", x.layer(0, 1, 3), 0);
    }

    private static void miceIn() {
        promise = 25;
        ThatchNext x = told("deep 4;roof reed 1 mice 3;roof;roof reed 1 mice 30;roof;");
        due("miceIn(0)", x.miceIn(0), 33);
        due("miceIn(1)", x.miceIn(1), 66);
        due("miceIn(2)", x.miceIn(2), 12);
        due("miceIn(3)", x.miceIn(3), 24);
        due("miceIn(4)", x.miceIn(4), 0);
        due("miceIn(30)", x.miceIn(30), 0);
        due("miceIn(31)", x.miceIn(31), -3);
        due("miceIn(-1)", x.miceIn(-1), -3);
        x.cat(1);
        due("with a cat", x.miceIn(1), 60);
    }

    private static void cats() {
        promise = 26;
        ThatchNext x = told("deep 4;ring;roof reed 1 mice 3;roof reed 1 mice 3;roof slate;roof reed 1 mice 1;");
        due("cats(1)", x.cats(1), 3);
        due("cats(2)", x.cats(2), 1);
        due("cats(3)", x.cats(3), 0);
        due("cats(8)", x.cats(8), 0);
        due("cats(0)", x.cats(0), -3);
        due("cats(9)", x.cats(9), -3);
        x.cat(1);
        due("cats that are there don't count", x.cats(1), 3);
        due("the fewest, not the least", told("ring;roof reed 1 mice 1;roof reed 1 mice 1;roof;").cats(2), 4);
        due("all but the first", told("roof reed 1 mice 1;roof reed 1 mice 1;roof;").cats(1), 6);
        due("all", told("ring;roof reed 1 mice 1;roof reed 1 mice 1;").cats(1), 3);
        due("a layer that is gone by then", told("deep 2;roof reed 1 reed 1 mice 3;roof reed 2;roof;").cats(1), 0);
        due("a layer without mice", told("roof reed 1 reed 1 mice 3;roof reed 2;roof;").cats(1), 2);
    }

    private static void spark() {
        promise = 27;
        ThatchNext x = told("roof reed 1 reed 1 spark;roof slate;roof;");
        due("spark(3)", x.spark(3), -2);
        due("spark(-1)", x.spark(-1), -2);
        due("spark(1)", x.spark(1), -5);
        due("spark(2)", x.spark(2), -5);
        due("spark(0)", x.spark(0), 2);
        due("spark(0)", x.spark(0), -5);
        due("layer(0, 0, 4)", x.layer(0, 0, 4), 1);
    }

    private static void sparkIn() {
        promise = 28;
        ThatchNext x = told("ring;roof reed 1 reed 1 spark;roof reed 1 spark;");
        due("sparkIn(0, 0)", x.sparkIn(0, 0), 1);
        due("sparkIn(1, 0)", x.sparkIn(1, 0), 10);
        due("sparkIn(0, 1)", x.sparkIn(0, 1), 12);
        due("sparkIn(0, 2)", x.sparkIn(0, 2), -1);
        due("sparkIn(1, 2)", x.sparkIn(1, 2), 12);
        due("sparkIn(1, 30)", x.sparkIn(1, 30), -1);
        due("sparkIn(2, 31)", x.sparkIn(2, 31), -2);
        due("sparkIn(-1, 0)", x.sparkIn(-1, 0), -2);
        due("sparkIn(0, 31)", x.sparkIn(0, 31), -3);
        due("sparkIn(0, -1)", x.sparkIn(0, -1), -3);
        due("no ring", told("roof;roof reed 1 spark;").sparkIn(0, 1), -1);
        due("a ring of one", told("ring;roof reed 1 spark;").sparkIn(0, 1), -1);
        due("slate takes nothing", told("roof reed 1 spark;roof slate;").sparkIn(0, 1), -1);
    }

    private static void odds() {
        promise = 29;
        ThatchNext x = told("ring;deep 6;odds 3;roof reed 1 spark;roof reed 1 spark;");
        due("odds(0, 1)", x.odds(0, 1), 3);
        due("odds(1, 1)", x.odds(1, 1), 3);
        // of 9: roof 0's spark burns roof 0 in 2 (second year), roof 1's in 3 (first): 81 - 7 * 6
        due("odds(0, 2)", x.odds(0, 2), 39);
        due("odds(2, 0)", x.odds(2, 0), -2);
        due("odds(-1, 1)", x.odds(-1, 1), -2);
        due("odds(0, 0)", x.odds(0, 0), -3);
        due("odds(0, 7)", x.odds(0, 7), -3);
        due("none", told("roof reed 1;").odds(0, 6), 0);
        ThatchNext great = told("ring;deep 6;odds 6;roof reed 1 spark reed 1 spark;roof reed 1 spark;");
        // of 46656 a spark on top burns next door in its years 1, 3, 5, its own roof in 2, 4; one deeper has 4 years left
        long odd = 7776 + 25L * 216 + 625L * 6;
        long even = 5L * 1296 + 125L * 36;
        long deeper = 5L * 1296 + 125L * 36;
        long all = 46656;
        due("odds(0, 6)", great.odds(0, 6), all * all * all - (all - even) * (all - deeper) * (all - odd));
        ThatchNext four = told("roof reed 1 spark reed 1 spark;roof reed 1 spark reed 1 spark;");
        due("four sparks", four.odds(0, 1), -4);
        due("four sparks", four.odds(0, 7), -3);
    }

    private static void outOf() {
        promise = 30;
        ThatchNext x = told("odds 6;roof reed 1 spark reed 1 spark reed 1 spark;roof reed 1;");
        due("outOf(1)", x.outOf(1), 216);
        due("outOf(6)", x.outOf(6), 101559956668416L);
        due("outOf(0)", x.outOf(0), -3);
        due("outOf(7)", x.outOf(7), -3);
        x.spark(1);
        due("outOf(1)", x.outOf(1), -4);
        due("outOf(7)", x.outOf(7), -3);
        due("no sparks", new ThatchNext().outOf(6), 1);
    }

    private static void open() {
        promise = 31;
        ThatchNext x = told("roof reed 1 spark;roof reed 1;roof reed 1 spark;roof;");
        due("the first of like ones", x.open(1), 1);
        due("open(2)", x.open(2), 1);
        due("open(0)", x.open(0), -3);
        due("open(7)", x.open(7), -3);
        due("no sparks", told("roof;").open(1), -1);
        due("one case", told("roof reed 1 spark;roof;").open(1), 1);
        due("roof 0", told("ring;roof;roof reed 1 spark;").open(1), 0);
        due("a spark that goes nowhere", told("roof reed 1 spark;roof slate;").open(6), -1);
        due("two come together", told("roof reed 1 spark;roof reed 1 spark reed 1 spark;roof;").open(1), 2);
        due("four sparks", told("roof reed 1 spark reed 1 spark;roof reed 1 spark reed 1 spark;").open(1), -4);
    }

    private static void order() {
        promise = 32;
        ThatchNext x = told("roof reed 1;roof reed 9;roof slate;roof;");
        due("order(4, 0)", x.order(4, 0), -2);
        due("order(0, 9)", x.order(0, 9), -2);
        due("order(0, 20)", x.order(0, 20), -2);
        due("order(0, 0)", x.order(0, 0), -6);
        fill(x, 0, 0, 0, 0, 5);
        due("two dry weeks do for two", x.order(0, 10), 0);
        due("order(0, 11)", x.order(0, 11), 1);
        due("order(0, 12)", x.order(0, 12), 3);
        due("order(0, 0)", x.order(0, 0), 1);
        due("order(0, 13)", x.order(0, 13), -1);
        due("order(0, 19)", x.order(0, 19), -1);
        fill(x, 0, 0, 0, -1);
        due("leaking ones ahead", x.order(0, 10), 1);
        due("order(0, 11)", x.order(0, 11), 3);
        due("order(0, 12)", x.order(0, 12), 0);
        due("order(0, 0)", x.order(0, 0), 1);
        fill(x, 0, 0);
        due("behind the row's end", x.order(0, 12), 3);
        due("order(0, 0)", x.order(0, 0), 0);
        x.numbers(0, 0, 12);
        due("twelve weeks", x.order(0, 0), 0);
        x.numbers(0, 0, 13);
        due("thirteen weeks", x.order(0, 0), -4);
        ThatchNext seven = told("roof slate;roof;roof;roof;roof;roof;roof;roof;");
        fill(seven, 0, 0, 1);
        due("seven and slate", seven.order(0, 0), 7);
        due("order(0, 16)", seven.order(0, 16), 7);
        ThatchNext eight = told("roof;roof;roof;roof;roof;roof;roof;roof;");
        due("order(0, 0)", eight.order(0, 0), -6);
        fill(eight, 0, 0, 1);
        due("eight", eight.order(0, 0), -4);
    }

    private static void wetted() {
        promise = 33;
        ThatchNext x = told("roof reed 1;roof reed 9;roof slate;roof;");
        due("wetted(4, 0)", x.wetted(4, 0), -2);
        due("wetted(0, -1)", x.wetted(0, -1), -2);
        due("wetted(0, 1)", x.wetted(0, 1), -6);
        fill(x, 0, 0, 1, 1, 1, 1);
        due("wetted(0, 1)", x.wetted(0, 1), -6);
        fill(x, 1, 3, 0, 1, 3);
        // bare 3 times; roof 1 leaks in one week, roof 3 in two
        due("wetted(0, 1)", x.wetted(0, 1), 6);
        fill(x, 1, 3, 3, 1, 0);
        due("wetted(0, 1)", x.wetted(0, 1), 4);
        fill(x, 0, 0, 0, 1);
        due("wetted(0, 1)", x.wetted(0, 1), 1);
        fill(x, 1, 3, 3, 1);
        due("one too few", x.wetted(0, 1), -3);
        fill(x, 1, 3, 3, 1, 1);
        due("one twice", x.wetted(0, 1), -3);
        fill(x, 1, 3, 3, 1, 2);
        due("slate", x.wetted(0, 1), -3);
        fill(x, 1, 3, 3, 1, 0, 0);
        due("one too many", x.wetted(0, 1), -3);
        fill(x, 1, 3, 3, 1, 1L << 32);
        due("no roof", x.wetted(0, 1), -3);
        x.numbers(0, 0, 13);
        due("thirteen weeks", x.wetted(0, 1), -4);
    }

    private static void past() {
        promise = 34;
        ThatchNext x = told("roof reed 8;roof reed 8;");
        due("past(0)", x.past(0), -3);
        due("past(4)", x.past(4), -3);
        due("past(1)", x.past(1), -5);
        x.image(1);
        due("image 1 is not it", x.past(1), -5);
        x.image(0);
        due("nothing yet", x.past(1), 0);
        x.year(2);
        due("past(1)", x.past(1), 1);
        x.rain();
        due("wet or not", x.past(1), 1);
        x.image(1);
        x.mend(0, 1);
        due("by sorts", x.past(1), 0);
        x.restore(1);
        x.mend(1, 0);
        due("by ages", x.past(1), 0);
        x.restore(1);
        x.burn(1);
        due("by how many", x.past(1), 0);
        x.restore(1);
        x.year(3);
        x.year(0);
        // what roof 0 gave tells its years; what roof 1 did in the first two leaves no trace
        due("past(3)", x.past(3), 4);
        due("sure(3, 0)", x.sure(3, 0), 0);
        due("sure(3, 1)", x.sure(3, 1), 1);
        due("sure(3, 2)", x.sure(3, 2), 0);
        due("past(2)", x.past(2), 0);
        due("a fault tells nothing", tell(x, "roof"), -32);
        due("past(3)", x.past(3), 4);
        tell(x, "roof reed 8;roof reed 8;");
        due("told anew", x.past(1), -5);
        x.restore(0);
        due("the image's row again", x.past(1), 0);
        ThatchNext five = told("roof;roof slate;roof;roof;roof;");
        due("past(1)", five.past(1), -5);
        five.image(0);
        due("past(1)", five.past(1), -4);
        due("past(0)", five.past(0), -3);
        ThatchNext four = told("roof;roof reed 1;roof reed 2;roof;");
        four.image(0);
        four.year(9);
        due("four roofs", four.past(1), 1);
        due("four roofs", four.sure(1, 0), 9);
        ThatchNext slates = told("roof reed 1;roof slate;");
        slates.image(0);
        slates.year(0);
        due("slate never skips", slates.past(1), 1);
        ThatchNext none = new ThatchNext();
        none.image(0);
        due("no roofs", none.past(3), 1);
    }

    private static void sure() {
        promise = 35;
        ThatchNext x = told("roof reed 8;roof reed 8;roof slate;");
        due("sure(0, 0)", x.sure(0, 0), -3);
        due("sure(4, 0)", x.sure(4, 0), -3);
        due("sure(2, 2)", x.sure(2, 2), -3);
        due("sure(2, -1)", x.sure(2, -1), -3);
        due("sure(1, 0)", x.sure(1, 0), -5);
        x.image(0);
        due("none are", x.sure(1, 0), 0);
        x.year(1);
        x.year(2);
        due("past(2)", x.past(2), 2);
        due("sure(2, 0)", x.sure(2, 0), 0);
        due("sure(2, 1)", x.sure(2, 1), 2);
        ThatchNext five = told("roof;roof slate;roof;roof;roof;");
        five.image(0);
        due("sure(1, 0)", five.sure(1, 0), -4);
    }

    private static void causes() {
        promise = 36;
        ThatchNext x = told("deep 6;reed 1 1;roof reed 9;roof reed 9;roof reed 9;roof slate;");
        due("told ones are from none", x.causes(1), 0);
        due("an empty set", x.causes(0), 15);
        x.year(0);
        x.year(0);
        x.year(0);
        due("causes(4)", x.causes(4), 1);
        due("causes(2)", x.causes(2), 0);
        x.year(7);
        x.year(7);
        due("causes(1)", x.causes(1), 1);
        due("causes(2)", x.causes(2), 3);
        due("causes(4)", x.causes(4), 7);
        due("causes(6)", x.causes(6), 3);
        due("causes(7)", x.causes(7), 1);
        due("slate", x.causes(8), 0);
        due("causes(16)", x.causes(16), -3);
        due("causes(-1)", x.causes(-1), -3);
    }

    private static void look() {
        promise = 37;
        ThatchNext x = told("deep 6;reed 1 1;roof;roof;roof;roof;");
        for (int i = 0; i < 4; i++) {
            x.year(0);
        }
        due("roofs 0 and 1 might be", x.look(), 2);
        due("causes(4)", x.causes(4), 1);
        due("causes(8)", x.causes(8), 3);
        x.burn(3);
        due("fewer than 2", x.look(), -1);
        due("no roofs", new ThatchNext().look(), -1);
        ThatchNext y = told("reed 1 1;roof slate;roof;roof;");
        y.year(0);
        y.year(6);
        y.year(6);
        due("both might be, each at home", y.look(), 1);
        y.slate(1);
        due("only one might be", y.look(), -1);
        ThatchNext z = told("reed 1 1;roof;roof;");
        z.year(0);
        z.year(3);
        z.year(3);
        due("the least", z.look(), 0);
    }

    private static void numbers() {
        promise = 38;
        ThatchNext x = new ThatchNext();
        due("numbers(4, 0, 1)", x.numbers(4, 0, 1), -2);
        due("numbers(-1, 0, 1)", x.numbers(-1, 0, 1), -2);
        due("numbers(0, 4, 41)", x.numbers(0, 4, 41), -2);
        due("numbers(0, -1, 1)", x.numbers(0, -1, 1), -2);
        due("numbers(0, 0, 41)", x.numbers(0, 0, 41), -3);
        due("numbers(0, 0, -1)", x.numbers(0, 0, -1), -3);
        due("perform(0)", x.perform(0), -6);
        due("numbers(0, 0, 40)", x.numbers(0, 0, 40), 0);
        due("write(0, 39, 5)", x.write(0, 39, 5), 5);
        due("judge(0, 0)", x.judge(0, 0), 39);
        due("numbers(0, 0, 41)", x.numbers(0, 0, 41), -3);
        due("the row stays", x.judge(0, 0), 39);
        due("numbers(0, 1, 40)", x.numbers(0, 1, 40), 0);
        due("all 0", x.judge(0, 0), -1);
        x.write(0, 0, 5);
        due("judge(0, 0)", x.judge(0, 0), 0);
        due("numbers(0, 1, 40)", x.numbers(0, 1, 40), 0);
        due("all 0", x.judge(0, 0), -1);
        due("numbers(0, 1, 0)", x.numbers(0, 1, 0), 0);
        due("perform(0)", x.perform(0), 0);
    }

    private static void write() {
        promise = 39;
        ThatchNext x = new ThatchNext();
        due("write(4, 0, 0)", x.write(4, 0, 0), -2);
        due("write(-1, 0, 0)", x.write(-1, 0, 0), -2);
        due("write(0, 0, 0)", x.write(0, 0, 0), -6);
        for (int sort = 0; sort < 4; sort++) {
            x.numbers(sort, sort, 2);
        }
        due("write(0, 2, 0)", x.write(0, 2, 0), -7);
        due("write(0, -1, 0)", x.write(0, -1, 0), -7);
        due("8 bits", x.write(0, 1, 0x1234567890abcd7fL), 0x7f);
        due("8 bits", x.write(0, 1, 200), -56);
        due("16 bits", x.write(1, 1, 0x1234567890ab7bcdL), 0x7bcd);
        due("16 bits", x.write(1, 1, 40000), -25536);
        due("32 bits", x.write(2, 1, 0x123456787fabcdefL), 0x7fabcdef);
        due("32 bits", x.write(2, 1, 0x1ffffffffL), -1);
        due("64 bits", x.write(3, 1, 0x1234567890abcdefL), 0x1234567890abcdefL);
    }

    private static void copy() {
        promise = 40;
        ThatchNext x = told("reed 30 30;roof reed 1 straw 0 reed 3;roof slate;");
        due("copy(2, 0)", x.copy(2, 0), -2);
        due("copy(0, 4)", x.copy(0, 4), -2);
        due("copy(0, 0)", x.copy(0, 0), -6);
        fill(x, 0, 0, 9, 9, 9, 9);
        due("copy(0, 0)", x.copy(0, 0), 3);
        due("1 can be, 0 can be, 3 is slate", x.judge(0, 0), 2);
        fill(x, 0, 0, 7, 7);
        due("copy(0, 0)", x.copy(0, 0), 2);
        due("all places", x.judge(0, 0), -1);
        due("copy(1, 0)", x.copy(1, 0), 0);
        due("none was changed", x.judge(0, 3), 1);
        x.numbers(0, 0, 0);
        due("no places", x.copy(0, 0), 0);
    }

    private static void image() {
        promise = 41;
        ThatchNext x = told("roof reed 1;");
        due("image(2)", x.image(2), -2);
        due("image(-1)", x.image(-1), -2);
        due("image(0)", x.image(0), 0);
        x.year(0);
        due("image(1)", x.image(1), 0);
        x.year(0);
        x.restore(1);
        due("count(1)", x.count(1), 1);
        x.restore(0);
        due("count(1)", x.count(1), 0);
        x.year(0);
        x.year(0);
        due("in place of another", x.image(0), 0);
        x.restore(1);
        x.restore(0);
        due("count(1)", x.count(1), 2);
    }

    private static void restore() {
        promise = 42;
        ThatchNext x = told("deep 4;reed 3 2;odds 5;ring;roof reed 1 wet mice 3 spark;roof slate;");
        due("restore(2)", x.restore(2), -2);
        due("restore(-1)", x.restore(-1), -2);
        due("restore(1)", x.restore(1), -5);
        x.cat(0);
        x.mend(0, 1);
        x.mice(0, 4);
        x.image(1);
        tell(x, "roof;roof;roof;");
        fill(x, 2, 0, 1);
        x.year(0);
        feedText(x, "ring;");
        due("restore(1)", x.restore(1), 0);
        int[] counts = {2, 0, 4, 3, 2, 5, 1, 0, 4, 1, 1, 20, 6, 0};
        for (int what = 0; what < counts.length; what++) {
            due("count(" + what + ")", x.count(what), counts[what]);
        }
        due("roof(0, 6)", x.roof(0, 6), 1);
        due("roof(1, 1)", x.roof(1, 1), 1);
        due("layer(0, 0, 5)", x.layer(0, 0, 5), 0);
        due("rows of numbers are not in it", x.perform(2), 1);
    }

    private static void count() {
        promise = 43;
        ThatchNext x = told("deep 5;ring;reed 9 3;odds 2;roof reed 1 wet mice 2 spark straw 1;roof slate;roof reed 10;");
        int[] counts = {3, 0, 5, 9, 3, 2, 3, 1, 2, 0, 1, 0, 7, 1};
        for (int what = 0; what < counts.length; what++) {
            due("count(" + what + ")", x.count(what), counts[what]);
        }
        due("count(14)", x.count(14), -1);
        due("count(-1)", x.count(-1), -1);
        x.rain();
        x.year(1);
        feedText(x, "r");
        int[] then = {3, 1, 5, 9, 3, 2, 3, 1, 4, 1, 1, 20, 7, 1};
        for (int what = 0; what < then.length; what++) {
            due("count(" + what + ")", x.count(what), then[what]);
        }
    }
}
