/** Promises 23 to 31: what was seen, rain, Februaries, fields kept, counts. */
public final class ChanceTest {
    private static final Due DUE = new Due();

    public static void main(String[] args) {
        see();
        forget();
        which();
        kinds();
        rain();
        rainAtMost();
        rainBad();
        februaryActs();
        februaryFull();
        februaryFrom();
        februaryBad();
        keep();
        back();
        backAsKept();
        count();
        DUE.end("ChanceTest");
    }

    private static void due(String call, long got, long want) {
        DUE.due(call, got, want);
    }

    private static void see() {
        HayTalk hay = new HayTalk();
        for (int bad : new int[] {-1, Integer.MIN_VALUE, Integer.MAX_VALUE}) {
            due("23: see word " + bad, hay.see(bad, 0), HayTalk.BAD);
            due("23: see hour " + bad, hay.see(0, bad), HayTalk.BAD);
        }
        due("23: see word 10", hay.see(10, 0), HayTalk.BAD);
        due("23: see hour 100", hay.see(0, 100), HayTalk.BAD);
        due("23: BAD changes nothing", hay.count(7), 0);
        due("23: see", hay.see(0, 0), 1);
        due("23: see", hay.see(9, 99), 2);
        for (int size = 3; size <= 6; size++) {
            due("23: see the same", hay.see(9, 99), size);
        }
        due("23: FULL", hay.see(1, 1), HayTalk.FULL);
        due("23: BAD ahead of FULL", hay.see(10, 1), HayTalk.BAD);
        due("23: BAD ahead of FULL", hay.see(1, 100), HayTalk.BAD);
        due("23: FULL changes nothing", hay.count(7), 6);
        due("23: it is no act", hay.count(8), 0);
    }

    private static void forget() {
        HayTalk hay = new HayTalk();
        due("24: nothing seen", hay.forget(), 0);
        hay.see(3, 0);
        hay.see(4, 4);
        due("24: which", hay.which(), 0);
        due("24: forget", hay.forget(), 2);
        due("24: nothing seen", hay.count(7), 0);
        due("24: all again", hay.which(), 15);
        due("24: forget again", hay.forget(), 0);
        due("24: see again", hay.see(3, 0), 1);
        due("24: only that", hay.which(), 1);
    }

    private static void which() {
        HayTalk hay = Due.laid("m12;m1;m13;m2;m123456789;c0;k0;");
        due("25: nothing seen", hay.which(), 31);
        hay.see(1, 0);
        due("25: 1 in 0", hay.which(), 23);
        hay.see(1, 2);
        due("25: 1 in 2", hay.which(), 7);
        hay.see(3, 99);
        due("25: 3 in 99", hay.which(), 4);
        hay.see(2, 5);
        due("25: none", hay.which(), 0);
        hay.forget();
        hay.see(9, 98);
        due("25: 9 in 98", hay.which(), 16);
        hay.pass(5);
        due("25: hours that go by are nothing to it", hay.which(), 16);
        hay.forget();
        hay.see(2, 1);
        hay.see(2, 97);
        due("25: 2 in 1 and 97", hay.which(), 9);
    }

    private static void kinds() {
        HayTalk hay = Due.laid("m1;c0;k0;");
        for (int set = 0; set <= 1023; set += 11) {
            int deaf = set & 341;
            int slow = Integer.lowestOneBit(set);
            for (int told : new int[] {set, deaf, slow, set ^ 1, 0}) {
                int want = (told == set ? 9 : 0) | (told == deaf ? 2 : 0) | (told == slow ? 4 : 0);
                due("26: kinds " + set + ", " + told, hay.kinds(set, told), want);
            }
        }
        due("26: kinds of none", hay.kinds(0, 0), 15);
        due("26: kinds of 0", hay.kinds(1, 1), 15);
        due("26: kinds of 9", hay.kinds(512, 512), 13);
        due("26: kinds of 9, not told", hay.kinds(512, 0), 2);
        due("26: kinds of 01", hay.kinds(3, 1), 6);
        due("26: more was told", hay.kinds(2, 3), 0);
        for (int bad : new int[] {-1, 1024, Integer.MIN_VALUE, Integer.MAX_VALUE}) {
            due("26: set " + bad, hay.kinds(bad, 0), HayTalk.BAD);
            due("26: told " + bad, hay.kinds(0, bad), HayTalk.BAD);
        }
    }

    private static void dueRain(HayTalk hay, int n, int x, int w, int above, int below) {
        due("27: rain " + n + " " + x + " " + w + ", above", hay.rain(0, n, x, w, 0), above);
        due("27: rain " + n + " " + x + " " + w + ", below", hay.rain(0, n, x, w, 1), below);
    }

    private static void rain() {
        HayTalk hay = Due.laid("m1;m2;c0;k0;e1;");
        dueRain(hay, 0, 5, 0, 1, 1);
        dueRain(hay, 0, 5, 1, 0, 1);
        dueRain(hay, 1, 5, 1, 1, 1);
        dueRain(hay, 1, 5, 2, 1, 2);
        dueRain(hay, 1, 5, 4, 1, 2);
        dueRain(hay, 1, 5, 5, 0, 1);
        dueRain(hay, 1, 2, 4, 1, 5);
        dueRain(hay, 1, 3, 4, 3, 10);
        dueRain(hay, 1, 0, 4, 0, 1);
        dueRain(hay, 1, 10, 4, 1, 1);
        dueRain(hay, 2, 5, 3, 3, 4);
        dueRain(hay, 2, 5, 8, 1, 4);
        dueRain(hay, 2, 1, 5, 19, 100);
        dueRain(hay, 2, 1, 8, 1, 100);
        dueRain(hay, 3, 4, 6, 98, 125);
        dueRain(hay, 8, 5, 32, 1, 256);
        dueRain(hay, 8, 5, 29, 9, 256);
        dueRain(hay, 8, 9, 32, 43046721, 100000000);
        dueRain(hay, 8, 0, 8, 1, 1);
        dueRain(hay, 8, 0, 9, 0, 1);
        dueRain(hay, 8, 10, 32, 1, 1);
        dueRain(hay, 8, 10, 33, 0, 1);
        hay.pass(4);
        dueRain(hay, 1, 5, 5, 1, 1);
        dueRain(hay, 1, 5, 6, 1, 2);
        due("27: rain on the other", hay.rain(1, 1, 5, 8, 1), 2);
        hay.turn(1);
        due("27: rain on a dry one", hay.rain(1, 1, 5, 8, 0), 0);
        due("27: rain on a dry one", hay.rain(1, 1, 5, 4, 1), 2);
    }

    private static void rainAtMost() {
        HayTalk hay = Due.laid("m1;c0;k0;e3;");
        hay.pass(24);
        hay.pass(7);
        due("27: wet", hay.mower(0, 2), 93);
        dueRain(hay, 1, 5, 99, 1, 2);
        dueRain(hay, 1, 5, 96, 1, 1);
        dueRain(hay, 2, 5, 99, 1, 1);
        hay.pass(1);
        dueRain(hay, 1, 0, 99, 1, 1);
        dueRain(hay, 0, 5, 99, 0, 1);
        hay.pass(10);
        dueRain(hay, 8, 3, 99, 1, 1);
    }

    private static void rainBad() {
        HayTalk hay = Due.laid("m1;c0;k0;");
        for (int bad : new int[] {-1, 100, Integer.MIN_VALUE, Integer.MAX_VALUE}) {
            due("27: mower " + bad, hay.rain(bad, 1, 1, 1, 0), HayTalk.BAD);
            due("27: hours " + bad, hay.rain(0, bad, 1, 1, 0), HayTalk.BAD);
            due("27: tenths " + bad, hay.rain(0, 1, bad, 1, 0), HayTalk.BAD);
            due("27: wet " + bad, hay.rain(0, 1, 1, bad, 0), HayTalk.BAD);
            due("27: part " + bad, hay.rain(0, 1, 1, 1, bad), HayTalk.BAD);
        }
        due("27: mower 1", hay.rain(1, 1, 1, 1, 0), HayTalk.BAD);
        due("27: 9 hours", hay.rain(0, 9, 1, 1, 0), HayTalk.BAD);
        due("27: 11 tenths", hay.rain(0, 1, 11, 1, 0), HayTalk.BAD);
        due("27: part 2", hay.rain(0, 1, 1, 1, 2), HayTalk.BAD);
    }

    /** Plays each February on a second object by acts, as the draws tell, and compares. */
    private static void februaryActs() {
        String[] texts = {
            "m314;m2718;m5;m9902;e0120;c0;c1;c2;c3;k2;k0;k5;",
            "m123456789;m0;m98;m2468;m13;e31;c3;c2;c1;c0;k0;k9;k2;",
            "m12;c0;k0;e3;", "m3;m1;c2;c3;k1;k0;", "m159;m26;m37;c1;c1;c3;k4;k8;e0123;"};
        int round = 0;
        for (String text : texts) {
            for (int z : new int[] {0, 1, 2, 17, 255, 4096, 9998, 9999}) {
                for (int n : new int[] {1, 2, 7, 30, 60}) {
                    HayTalk hay = Due.laid(text);
                    HayTalk played = Due.laid(text);
                    prelude(hay, round);
                    prelude(played, round);
                    dueFebruary(hay, played, z, n);
                    round++;
                }
            }
        }
    }

    private static void prelude(HayTalk hay, int round) {
        for (int i = 0; i < round % 9; i++) {
            hay.pass(1 + (round + i) % 5);
            hay.rake(0, i % hay.count(0), (round + i) % hay.count(2));
            if (i % 3 == 2) {
                hay.cut((round + i) % hay.count(2), round % hay.count(1));
            }
        }
    }

    private static void dueFebruary(HayTalk hay, HayTalk played, int z, int n) {
        int burntAhead = played.count(5);
        int hoursAhead = hay.count(3);
        for (int k = 0; k < n; k++) {
            long x = 7919L * z + 6151L * k + 1;
            int draw = (int) (x * x % 65521);
            int m = draw / 8 % played.count(0);
            int c = draw / 8 % played.count(1);
            int r = draw / 64 % played.count(2);
            int act = draw % 8;
            if (act <= 1) {
                played.rake(0, m, r);
            } else if (act <= 3) {
                played.cut(r, c);
            } else if (act == 4) {
                played.turn(m);
            }
            played.pass(1);
        }
        String call = "28: february " + z + " " + n;
        due(call + ", words", hay.february(z, n, 0), played.count(6));
        due(call + ", layers", hay.february(z, n, 1), played.count(4));
        due(call + ", burnt", hay.february(z, n, 2), played.count(5) - burntAhead);
        due(call + ", nothing changes", hay.count(3), hoursAhead);
    }

    /** The ricks are full ahead of these Februaries: what can not be raked then stays in its swathe. */
    private static void februaryFull() {
        for (String text : new String[] {"m123456789;m97531;c3;c0;k0;", "m123456789;m2;m3;c0;c1;k9;k9;e1;"}) {
            HayTalk hay = Due.laid(text);
            HayTalk played = Due.laid(text);
            for (HayTalk each : new HayTalk[] {hay, played}) {
                for (int i = 0; i < 16; i++) {
                    each.pass(1);
                    each.rake(0, 0, i % each.count(2));
                }
            }
            due("28: full", hay.rick(0, 1), 8);
            for (int z = 0; z < 40; z++) {
                played.keep();
                dueFebruary(hay, played, z, 1 + z);
                played.back();
            }
        }
    }

    /** By z = 0 the draw ahead of hour 0 is 1: swathe 0 is raked into rick 0. */
    private static void februaryFrom() {
        HayTalk hay = Due.laid("m1;c0;k0;");
        due("28: nothing lies yet", hay.february(0, 1, 1), 0);
        hay.pass(1);
        due("28: it lies", hay.february(0, 1, 1), 1);
        hay.rake(0, 0, 0);
        hay.cut(0, 0);
        due("28: told ahead counts", hay.february(0, 1, 0), 1);
        due("28: known", new HayTalk().february(5, 60, 0), 9);
        due("28: known", new HayTalk().february(5, 60, 1), 1);
        due("28: known", new HayTalk().february(5, 60, 2), 5);
        HayTalk wet = Due.laid("m1;c0;k0;e3;");
        wet.pass(24);
        wet.rake(0, 0, 0);
        due("28: burns", wet.february(0, 1, 2), 1);
        wet.pass(1);
        due("28: burnt ahead does not count", wet.february(0, 1, 2), 0);
    }

    private static void februaryBad() {
        HayTalk hay = new HayTalk();
        for (int bad : new int[] {-1, 10000, Integer.MIN_VALUE, Integer.MAX_VALUE}) {
            due("28: z " + bad, hay.february(bad, 1, 0), HayTalk.BAD);
            due("28: n " + bad, hay.february(1, bad, 0), HayTalk.BAD);
            due("28: what " + bad, hay.february(1, 1, bad), HayTalk.BAD);
        }
        due("28: n 0", hay.february(1, 0, 0), HayTalk.BAD);
        due("28: n 61", hay.february(1, 61, 0), HayTalk.BAD);
        due("28: what 3", hay.february(1, 1, 3), HayTalk.BAD);
    }

    private static void keep() {
        HayTalk hay = new HayTalk();
        due("29: keep", hay.keep(), 1);
        due("29: keep", hay.keep(), 2);
        due("29: FULL", hay.keep(), HayTalk.FULL);
        due("29: kept", hay.count(9), 2);
        due("29: back", hay.back(), 1);
        due("29: keep again", hay.keep(), 2);
        due("29: FULL", hay.keep(), HayTalk.FULL);
    }

    private static void back() {
        HayTalk hay = Due.laid("m123456789;c0;k0;");
        due("30: nothing kept", hay.back(), HayTalk.NO);
        hay.pass(1);
        hay.keep();
        hay.pass(2);
        hay.keep();
        hay.pass(4);
        hay.keep();
        due("30: keeping is nothing to undo", hay.count(8), 3);
        due("30: kept last", hay.back(), 1);
        due("30: hours", hay.count(3), 3);
        due("30: nothing undone", hay.undo(), HayTalk.NO);
        due("30: nothing undone", hay.count(8), 0);
        hay.pass(9);
        due("30: undone of what came then", hay.undo(), 0);
        due("30: hours", hay.count(3), 3);
        due("30: kept first", hay.back(), 0);
        due("30: hours", hay.count(3), 1);
        due("30: nothing more", hay.back(), HayTalk.NO);
        hay.pass(3);
        due("30: NO changes nothing", hay.back(), HayTalk.NO);
        due("30: NO changes nothing", hay.count(8), 1);
        hay.keep();
        hay.undo();
        due("30: undone, but kept", hay.count(3), 1);
        due("30: back", hay.back(), 0);
        due("30: as kept", hay.count(3), 4);
    }

    private static void backAsKept() {
        HayTalk hay = Due.laid("m12;m34;c0;c1;k0;k5;e2;");
        hay.pass(3);
        hay.rake(0, 0, 0);
        hay.pass(1);
        hay.rake(1, 1, 1);
        hay.pass(1);
        hay.rake(0, 0, 1);
        hay.cut(1, 0);
        hay.pass(1);
        hay.see(1, 1);
        hay.keep();
        int[] ahead = {hay.cow(0, 1), hay.rick(0, 2), hay.mower(0, 1), hay.mower(1, 2), hay.layer(1, 0, 0), hay.count(5)};
        hay.pass(24);
        hay.rake(0, 1, 0);
        hay.cut(0, 1);
        hay.see(3, 0);
        hay.write('m');
        hay.pass(1);
        due("30: it burnt", hay.count(5) > ahead[5] ? 1 : 0, 1);
        due("30: back", hay.back(), 0);
        int[] then = {hay.cow(0, 1), hay.rick(0, 2), hay.mower(0, 1), hay.mower(1, 2), hay.layer(1, 0, 0), hay.count(5)};
        for (int i = 0; i < ahead.length; i++) {
            due("30: as kept, " + i, then[i], ahead[i]);
        }
        due("30: the other cow", hay.cow(1, 1), 0);
        due("30: hours", hay.count(3), 6);
        due("30: what is seen stays", hay.count(7), 2);
        due("30: the text stays", hay.count(10), 24);
    }

    private static void count() {
        HayTalk hay = Due.laid("m12;m3;m4;c0;c1;k0;k9;e3;");
        for (int what : new int[] {-1, 11, Integer.MIN_VALUE, Integer.MAX_VALUE}) {
            due("31: count " + what, hay.count(what), HayTalk.BAD);
        }
        hay.pass(14);
        hay.rake(0, 0, 0);
        hay.rake(1, 1, 1);
        hay.pass(1);
        hay.rake(0, 2, 0);
        hay.cut(0, 0);
        hay.pass(1);
        hay.rake(0, 0, 1);
        hay.rake(1, 2, 1);
        hay.cut(1, 1);
        hay.see(1, 0);
        hay.keep();
        hay.write('m');
        int[] counts = {3, 2, 2, 16, 1, 2, 4, 1, 8, 1, 26};
        for (int what = 0; what < counts.length; what++) {
            due("31: count " + what, hay.count(what), counts[what]);
        }
    }
}
