/** Promises 1 to 9: a new object, the text, the laying, what stands where. */
public final class FieldsTest {
    private static final Due DUE = new Due();

    public static void main(String[] args) {
        newObject();
        firstWords();
        write();
        wipe();
        fault();
        faultOfNumbers();
        faultOfLimits();
        lay();
        layEndsAll();
        layNo();
        faultBehindLay();
        weather();
        mower();
        cow();
        rick();
        layer();
        DUE.end("FieldsTest");
    }

    private static void due(String call, long got, long want) {
        DUE.due(call, got, want);
    }

    private static void newObject() {
        HayTalk hay = new HayTalk();
        int[] counts = {4, 4, 3, 0, 0, 0, 0, 0, 0, 0, 0};
        for (int what = 0; what < counts.length; what++) {
            due("1: count " + what, hay.count(what), counts[what]);
        }
        int[] words = {3, 2, 5, 9};
        int[] thatches = {2, 0, 5};
        for (int i = 0; i < 4; i++) {
            due("1: next word of " + i, hay.mower(i, 0), words[i]);
            due("1: swathe " + i, hay.mower(i, 1), 0);
            due("1: wet " + i, hay.mower(i, 2), 0);
            due("1: kind " + i, hay.cow(i, 0), i);
            due("1: told " + i, hay.cow(i, 1), 0);
        }
        for (int k = 0; k < 3; k++) {
            due("1: thatch " + k, hay.rick(k, 0), thatches[k]);
            due("1: height " + k, hay.rick(k, 1), 0);
            due("1: heat " + k, hay.rick(k, 2), 0);
            due("1: burnt " + k, hay.rick(k, 3), 0);
        }
        due("1: which", hay.which(), 15);
        due("1: fault", hay.fault(), HayTalk.NONE);
        due("1: lay", hay.lay(), HayTalk.NO);
        due("1: undo", hay.undo(), HayTalk.NO);
        due("1: back", hay.back(), HayTalk.NO);
        due("1: forget", hay.forget(), 0);
        due("1: wipe", hay.wipe(), 0);
        due("BAD", HayTalk.BAD, -1);
        due("NO", HayTalk.NO, -2);
        due("FULL", HayTalk.FULL, -3);
        due("NONE", HayTalk.NONE, -4);
    }

    private static void firstWords() {
        HayTalk hay = new HayTalk();
        String[] rows = {"314", "2718", "5", "9902"};
        int[] weather = {0, 1, 2, 0};
        int wet = 0;
        for (int hour = 0; hour < 13; hour++) {
            for (int m = 0; m < 4; m++) {
                due("1: word of hour " + hour, hay.mower(m, 0), rows[m].charAt(hour % rows[m].length()) - '0');
                due("1: wet by hour " + hour, hay.mower(m, 2), wet);
            }
            wet += weather[hour % 4];
            hay.pass(1);
        }
    }

    private static void write() {
        HayTalk hay = new HayTalk();
        for (int letter : new int[] {31, 127, 0, -1, 10, 128, 1000, Integer.MIN_VALUE, Integer.MAX_VALUE}) {
            due("2: write " + letter, hay.write(letter), HayTalk.BAD);
        }
        due("2: length after BAD", hay.count(10), 0);
        due("2: write 32", hay.write(32), 1);
        due("2: write 126", hay.write(126), 2);
        for (int length = 3; length <= 200; length++) {
            due("2: write", hay.write('m'), length);
        }
        due("2: write at 200", hay.write('m'), HayTalk.FULL);
        due("2: BAD ahead of FULL", hay.write(31), HayTalk.BAD);
        due("2: BAD ahead of FULL", hay.write(127), HayTalk.BAD);
        due("2: length after FULL", hay.count(10), 200);
        due("2: wipe", hay.wipe(), 200);
        due("2: write again", hay.write('m'), 1);
    }

    private static void wipe() {
        HayTalk hay = Due.written("m1;x");
        due("3: fault ahead", hay.fault(), 3);
        due("3: wipe", hay.wipe(), 4);
        due("3: length", hay.count(10), 0);
        due("3: fault", hay.fault(), HayTalk.NONE);
        due("3: wipe again", hay.wipe(), 0);
        Due.writeOn(hay, "c0;");
        due("3: fault of a new text", hay.fault(), HayTalk.NONE);
        due("3: wipe leaves the land", hay.count(0), 4);
    }

    private static void dueFault(String text, int want) {
        due("4: fault of " + text, Due.written(text).fault(), want);
    }

    private static void fault() {
        dueFault("", HayTalk.NONE);
        dueFault("m1;", HayTalk.NONE);
        dueFault("m0123456789;", 0);
        dueFault("m012345678;", HayTalk.NONE);
        dueFault("m999999999;e012301230;", HayTalk.NONE);
        dueFault("e0123012301;", 0);
        dueFault("m;", 0);
        dueFault("e;", 0);
        dueFault("m", 0);
        dueFault("m1", 0);
        dueFault("m1;m2", 3);
        dueFault("m1;;", 3);
        dueFault(";", 0);
        dueFault(" m1;", 0);
        dueFault("m1; m2;", 3);
        dueFault("m 1;", 0);
        dueFault("m1 ;", 0);
        dueFault("M1;", 0);
        dueFault("m1a;", 0);
        dueFault("m1/;", 0);
        dueFault("m1:;", 0);
        dueFault("m1,2;", 0);
        dueFault("mm1;", 0);
        dueFault("e3;", HayTalk.NONE);
        dueFault("e4;", 0);
        dueFault("e0;e13;e24;e1;", 7);
        dueFault("x1;", 0);
        dueFault("k1;r1;x;", 3);
        dueFault("1;", 0);
        dueFault("m12", 0);
        dueFault("c1;m", 3);
        HayTalk hay = Due.written("m1;");
        due("4: fault once", hay.fault(), HayTalk.NONE);
        hay.write('k');
        due("4: fault of what is half written", hay.fault(), 3);
        hay.write('4');
        due("4: fault of what is half written", hay.fault(), 3);
        hay.write(';');
        due("4: fault of what is written", hay.fault(), HayTalk.NONE);
        due("4: fault changes nothing", hay.count(0), 4);
        due("4: fault changes nothing", hay.count(10), 6);
    }

    private static void faultOfNumbers() {
        for (int kind = 0; kind <= 3; kind++) {
            dueFault("c" + kind + ";", HayTalk.NONE);
            dueFault("c0" + kind + ";", HayTalk.NONE);
        }
        for (int thatch = 0; thatch <= 9; thatch++) {
            dueFault("k" + thatch + ";", HayTalk.NONE);
            dueFault("k0" + thatch + ";", HayTalk.NONE);
        }
        dueFault("c4;", 0);
        dueFault("c9;", 0);
        dueFault("c10;", 0);
        dueFault("c003;", 0);
        dueFault("c;", 0);
        dueFault("c0,1;", 0);
        dueFault("c-1;", 0);
        dueFault("c0x;", 0);
        dueFault("ca;", 0);
        dueFault("k10;", 0);
        dueFault("k99;", 0);
        dueFault("k000;", 0);
        dueFault("k;", 0);
        dueFault("k5", 0);
        dueFault("k5,;", 0);
        dueFault("k 5;", 0);
    }

    private static void faultOfLimits() {
        dueFault("m1;m1;m1;m1;m1;", HayTalk.NONE);
        dueFault("m1;m1;m1;m1;m1;m1;", 15);
        dueFault("c1;c1;c1;c1;", HayTalk.NONE);
        dueFault("c1;c1;c1;c1;k1;c1;", 15);
        dueFault("k1;k1;k1;", HayTalk.NONE);
        dueFault("k1;k1;k1;k1;", 9);
        dueFault("k1;k1;k1;k1;x", 9);
        dueFault("e1;e1;e1;e1;e1;e1;e1;e1;e1;e1;e1;e1;", HayTalk.NONE);
        StringBuilder weather = new StringBuilder();
        for (int i = 0; i < 66; i++) {
            weather.append("e1;");
        }
        dueFault(weather.toString(), HayTalk.NONE);
        dueFault(weather + "m1", 198);
        dueFault(weather + "e1;", 198);
    }

    private static void lay() {
        HayTalk hay = Due.written("m1;c2;k7;");
        due("5: lay", hay.lay(), 1);
        due("5: the text stays", hay.count(10), 9);
        due("5: mowers", hay.count(0), 1);
        due("5: cows", hay.count(1), 1);
        due("5: ricks", hay.count(2), 1);
        due("5: word", hay.mower(0, 0), 1);
        due("5: kind", hay.cow(0, 0), 2);
        due("5: thatch", hay.rick(0, 0), 7);
        due("5: no mower 1", hay.mower(1, 0), HayTalk.BAD);
        due("5: no cow 1", hay.cow(1, 0), HayTalk.BAD);
        due("5: no rick 1", hay.rick(1, 0), HayTalk.BAD);
        hay.wipe();
        Due.writeOn(hay, "k03;m12;c03;m345678901;k9;m0;m9;c00;m7;c1;k0;c02;");
        due("5: lay in any order", hay.lay(), 5);
        due("5: cows", hay.count(1), 4);
        due("5: ricks", hay.count(2), 3);
        int[] words = {1, 3, 0, 9, 7};
        int[] kinds = {3, 0, 1, 2};
        int[] thatches = {3, 9, 0};
        for (int m = 0; m < 5; m++) {
            due("5: word of " + m, hay.mower(m, 0), words[m]);
        }
        for (int c = 0; c < 4; c++) {
            due("5: kind of " + c, hay.cow(c, 0), kinds[c]);
        }
        for (int k = 0; k < 3; k++) {
            due("5: thatch of " + k, hay.rick(k, 0), thatches[k]);
        }
        due("5: lay twice", hay.lay(), 5);
        int wordsOfNine = Due.set("345678901");
        due("5: a row of nine", hay.behind(9, 1, 0), wordsOfNine);
        due("5: a row of nine", hay.behind(8, 1, 0), wordsOfNine & ~2);
    }

    private static void layEndsAll() {
        HayTalk hay = Due.written("m12;m3;c0;c3;k0;k0;e1;");
        hay.lay();
        for (int i = 0; i < 30; i++) {
            hay.pass(2);
            hay.rake(0, 1, i % 2);
            hay.cut(i % 2, i / 2 % 2);
        }
        hay.pass(1);
        hay.rake(0, 0, 0);
        hay.pass(20);
        hay.rake(0, 1, 0);
        hay.pass(3);
        hay.see(1, 0);
        hay.see(3, 1);
        hay.rake(0, 1, 1);
        hay.pass(1);
        hay.keep();
        hay.keep();
        due("5: a rick burnt", hay.count(5) > 0 ? 1 : 0, 1);
        due("5: lay again", hay.lay(), 2);
        int[] counts = {2, 2, 2, 0, 0, 0, 0, 0, 0, 0, 22};
        for (int what = 0; what < counts.length; what++) {
            due("5: count " + what, hay.count(what), counts[what]);
        }
        for (int i = 0; i < 2; i++) {
            due("5: swathe", hay.mower(i, 1), 0);
            due("5: wet", hay.mower(i, 2), 0);
            due("5: told", hay.cow(i, 1), 0);
            due("5: layers", hay.rick(i, 1), 0);
            due("5: hot", hay.rick(i, 2), 0);
            due("5: burnt", hay.rick(i, 3), 0);
        }
        due("5: the first word is next", hay.mower(0, 0), 1);
        due("5: nothing undone", hay.undo(), HayTalk.NO);
        due("5: nothing kept", hay.back(), HayTalk.NO);
        due("5: nothing seen", hay.which(), 3);
    }

    private static void faultBehindLay() {
        HayTalk hay = Due.laid("m12;m3;c0;k0;e2;");
        hay.pass(1);
        for (String text : new String[] {"m9;m8;m7;c3;k9;k9;e3;", "m9;x", "c3;", ""}) {
            hay.wipe();
            Due.writeOn(hay, text);
            hay.fault();
            due("4: fault lays nothing, mowers", hay.count(0), 2);
            due("4: fault lays nothing, cows", hay.count(1), 1);
            due("4: fault lays nothing, ricks", hay.count(2), 1);
            due("4: fault lays nothing, word", hay.mower(0, 0), 2);
            due("4: fault lays nothing, kind", hay.cow(0, 0), 0);
            due("4: fault lays nothing, thatch", hay.rick(0, 0), 0);
            due("4: fault lays nothing, weather", hay.behind(1, 1, 1), 4);
        }
        due("5: lay of no text", hay.lay(), HayTalk.NO);
        due("5: the land stays", hay.count(0), 2);
        due("5: its hours stay", hay.count(3), 1);
    }

    private static void layNo() {
        for (String text : new String[] {"", "m1;c1;", "m1;k1;", "c1;k1;", "e1;", "m1;c1;k1;x", "m1;c1;k1;m", "m1;c4;k1;"}) {
            HayTalk hay = new HayTalk();
            hay.pass(2);
            hay.rake(0, 3, 1);
            hay.see(5, 5);
            hay.keep();
            Due.writeOn(hay, text);
            due("5: lay of " + text, hay.lay(), HayTalk.NO);
            int[] counts = {4, 4, 3, 2, 1, 0, 0, 1, 2, 1, text.length()};
            for (int what = 0; what < counts.length; what++) {
                due("5: count " + what + " behind NO", hay.count(what), counts[what]);
            }
            due("5: word behind NO", hay.mower(1, 0), 1);
            due("5: weather behind NO", hay.behind(4, 0, 1), 3);
            due("5: rick behind NO", hay.rick(0, 0), 2);
            due("5: cow behind NO", hay.cow(3, 0), 3);
            due("5: undo behind NO", hay.undo(), 1);
        }
    }

    private static void weather() {
        due("5: no weather", Due.laid("m1;c0;k0;").behind(40, 0, 1), 0);
        due("5: the last weather", Due.laid("e3;m1;e12;c0;k0;").behind(3, 0, 1), 4);
        due("5: the last weather", Due.laid("e12;m1;c0;k0;e0;").behind(9, 0, 1), 0);
        due("5: the last, shorter", Due.laid("e111111111;m1;c0;k0;e20;").behind(5, 0, 1), 6);
        due("5: nine hours", Due.laid("m1;c0;k0;e100000003;").behind(9, 0, 1), 4);
        due("5: nine hours over", Due.laid("m1;c0;k0;e100000003;").behind(10, 0, 1), 5);
        HayTalk hay = Due.laid("m1;c0;k0;e3;");
        Due.relay(hay, "m1;c0;k0;");
        due("5: no weather of an earlier text", hay.behind(40, 0, 1), 0);
        for (int i = 0; i < 3; i++) {
            Due.relay(hay, "m1;c0;k0;e3;");
        }
        Due.relay(hay, "m1;c0;k0;");
        due("5: no weather of an earlier text", hay.behind(40, 0, 1), 0);
    }

    private static void mower() {
        HayTalk hay = Due.laid("m1;m29;m33;c0;k0;e2;");
        for (int what = 0; what <= 2; what++) {
            due("6: mower -1", hay.mower(-1, what), HayTalk.BAD);
            due("6: mower 3", hay.mower(3, what), HayTalk.BAD);
        }
        for (int what : new int[] {-1, 3, Integer.MIN_VALUE, Integer.MAX_VALUE}) {
            due("6: what " + what, hay.mower(0, what), HayTalk.BAD);
        }
        hay.pass(1);
        due("6: says next", hay.mower(1, 0), 9);
        due("6: lies", hay.mower(1, 1), Due.set("2"));
        hay.pass(1);
        due("6: says next", hay.mower(1, 0), 2);
        due("6: lies", hay.mower(1, 1), Due.set("29"));
        due("6: lies once", hay.mower(2, 1), Due.set("3"));
        due("6: wet", hay.mower(2, 2), 4);
        hay.pass(24);
        hay.pass(23);
        due("6: wet ahead of the most", hay.mower(0, 2), 98);
        hay.pass(1);
        due("6: wet at most", hay.mower(0, 2), 99);
        hay.pass(1);
        due("6: wet at most", hay.mower(0, 2), 99);
    }

    private static void cow() {
        HayTalk hay = Due.laid("m123456789;c3;c1;k0;");
        for (int what : new int[] {-1, 2, Integer.MIN_VALUE, Integer.MAX_VALUE}) {
            due("7: what " + what, hay.cow(0, what), HayTalk.BAD);
        }
        for (int c : new int[] {-1, 2, Integer.MIN_VALUE, Integer.MAX_VALUE}) {
            due("7: cow " + c, hay.cow(c, 0), HayTalk.BAD);
            due("7: cow " + c, hay.cow(c, 1), HayTalk.BAD);
        }
        hay.pass(5);
        hay.rake(0, 0, 0);
        hay.cut(0, 1);
        due("7: kind", hay.cow(0, 0), 3);
        due("7: kind", hay.cow(1, 0), 1);
        due("7: told", hay.cow(0, 1), 0);
        due("7: told", hay.cow(1, 1), Due.set("24"));
    }

    private static void rick() {
        HayTalk hay = Due.laid("m1;c0;k4;k2;e3;");
        for (int what : new int[] {-1, 4, Integer.MIN_VALUE, Integer.MAX_VALUE}) {
            due("8: what " + what, hay.rick(0, what), HayTalk.BAD);
        }
        for (int k : new int[] {-1, 2, Integer.MIN_VALUE, Integer.MAX_VALUE}) {
            for (int what = 0; what <= 3; what++) {
                due("8: rick " + k, hay.rick(k, what), HayTalk.BAD);
            }
        }
        hay.pass(3);
        hay.rake(0, 0, 1);
        hay.pass(1);
        hay.rake(0, 0, 1);
        hay.pass(1);
        due("8: thatch", hay.rick(1, 0), 2);
        due("8: layers", hay.rick(1, 1), 2);
        due("8: hottest", hay.rick(1, 2), 14);
        hay.pass(3);
        due("8: hot ahead of 40", hay.rick(1, 2), 35);
        due("8: not yet burnt", hay.rick(1, 3), 0);
        hay.pass(1);
        due("8: burnt", hay.rick(1, 3), 1);
        due("8: burnt, empty", hay.rick(1, 1), 0);
        due("8: burnt, not hot", hay.rick(1, 2), 0);
        due("8: the other not burnt", hay.rick(0, 3), 0);
        hay.rake(0, 0, 1);
        due("8: a new layer", hay.rick(1, 1), 1);
        due("8: a new layer is not hot", hay.rick(1, 2), 0);
        hay.pass(4);
        due("8: burnt again", hay.rick(1, 3), 2);
    }

    private static void layer() {
        HayTalk hay = Due.laid("m12;m3;c0;k0;k1;e1;");
        due("9: no layer", hay.layer(0, 0, 0), HayTalk.BAD);
        hay.pass(2);
        hay.rake(0, 0, 1);
        hay.pass(3);
        hay.rake(0, 1, 1);
        due("9: words of the lowest", hay.layer(1, 0, 0), Due.set("12"));
        due("9: wet of the lowest", hay.layer(1, 0, 1), 2);
        due("9: heat of the lowest", hay.layer(1, 0, 2), 3);
        due("9: words of the top", hay.layer(1, 1, 0), Due.set("123"));
        due("9: wet of the top", hay.layer(1, 1, 1), 8);
        due("9: heat of the top", hay.layer(1, 1, 2), 0);
        for (int what : new int[] {-1, 3, Integer.MIN_VALUE, Integer.MAX_VALUE}) {
            due("9: what " + what, hay.layer(1, 0, what), HayTalk.BAD);
        }
        for (int what = 0; what <= 2; what++) {
            due("9: layer -1", hay.layer(1, -1, what), HayTalk.BAD);
            due("9: layer 2", hay.layer(1, 2, what), HayTalk.BAD);
            due("9: the most", hay.layer(1, Integer.MAX_VALUE, what), HayTalk.BAD);
            due("9: an empty rick", hay.layer(0, 0, what), HayTalk.BAD);
            due("9: rick -1", hay.layer(-1, 0, what), HayTalk.BAD);
            due("9: rick 2", hay.layer(2, 0, what), HayTalk.BAD);
        }
        hay.cut(1, 0);
        due("9: a layer that is cut", hay.layer(1, 1, 0), HayTalk.BAD);
    }
}
