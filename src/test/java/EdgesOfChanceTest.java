/** The edges that section 4 of "Terms" and promises 23 to 31 name, sentence by sentence. */
public final class EdgesOfChanceTest {
    private static final Due DUE = new Due();
    private static final Runs RUNS = new Runs(DUE);

    public static void main(String[] args) {
        seenAtMost();
        seenBad();
        forgotten();
        whichSaid();
        whichOverAndOver();
        kindsOfSets();
        kindsToldNothing();
        kindsBad();
        rainHours();
        rainTenths();
        rainWet();
        rainAtMost();
        rainBad();
        februaryDraws();
        februaryModulo();
        februaryIfItCanBe();
        februaryTurns();
        februaryTold();
        februaryBad();
        keptAtMost();
        keptIsAll();
        keptIsNot();
        countOfEach();
        DUE.end("EdgesOfChanceTest");
    }

    private static void seenAtMost() {
        RUNS.sentence("SEEN (6 at most)");
        RUNS.onNew("see(0,0)=1 see(1,1)=2 see(2,2)=3 see(3,3)=4 see(4,4)=5 see(5,5)=6 see(6,6)=FULL see(0,0)=FULL count(7)=6");
        RUNS.onNew("5*see(0,7) see(0,7)=6 see(0,7)=FULL count(7)=6 forget()=6 see(0,7)=1");
        RUNS.sentence("see: FULL: what is SEEN does not change then");
        RUNS.onLaid("m1;m2;c0;k0;", "6*see(1,0) see(2,0)=FULL which()=1 see(1,5)=FULL which()=1");
    }

    private static void seenBad() {
        RUNS.sentence("said WORD v (0 to 9) in HOUR h (0 to 99)");
        RUNS.onNew("see(-1,0)=BAD see(0,0)=1 see(9,0)=2 see(10,0)=BAD see(0,-1)=BAD see(0,99)=3 see(0,100)=BAD see(MIN,0)=BAD "
            + "see(MAX,0)=BAD see(0,MIN)=BAD see(0,MAX)=BAD count(7)=3");
        RUNS.sentence("see: BAD ahead of FULL");
        RUNS.onNew("6*see(1,1) see(-1,0)=BAD see(10,0)=BAD see(0,-1)=BAD see(0,100)=BAD see(0,0)=FULL");
    }

    private static void forgotten() {
        RUNS.sentence("Nothing is SEEN: how many were");
        RUNS.onNew("forget()=0 see(6,0)=1 which()=0 forget()=1 which()=15 forget()=0 count(7)=0");
    }

    private static void whichSaid() {
        RUNS.sentence("MOWERS (bits) of whom all that is SEEN is so");
        RUNS.onLaid("m12;m13;m2;m12;m1;c0;k0;", "which()=31 see(1,0)=1 which()=27 see(2,1)=2 which()=9 see(1,2)=3 which()=9 see(3,3)=4 "
            + "which()=0");
        RUNS.onLaid("m12;m13;m2;m12;m1;c0;k0;", "see(1,0)=1 see(1,1)=2 which()=16 see(1,99)=3 which()=16 pass(24) which()=16 "
            + "rake(0,4,0) which()=16");
        RUNS.onLaid("m1;c0;k0;", "which()=1 see(1,99)=1 which()=1 see(0,99)=2 which()=0");
    }

    private static void whichOverAndOver() {
        RUNS.sentence("WHICH of HOURS 0 to 99, over and over");
        RUNS.onLaid("m9;m01;m012;m0123;m01234;c0;k0;", "see(9,99)=1 which()=1 forget() see(1,99)=1 which()=2 forget() see(0,99)=1 "
            + "which()=4 forget() see(3,99)=1 which()=8 forget() see(4,99)=1 which()=16 forget() see(2,98)=1 which()=12 forget() "
            + "see(0,0)=1 which()=30");
        RUNS.onLaid("m012345;m0123456;m01234567;m012345678;c0;k0;", "see(3,99)=1 which()=5 forget() see(1,99)=1 which()=2 forget() "
            + "see(0,99)=1 which()=8 forget() see(8,98)=1 which()=8 forget() see(8,8)=1 which()=8 forget() see(0,8)=1 which()=4");
    }

    private static void kindsOfSets() {
        RUNS.sentence("those (bits of 0 to 3) that were told just the told set by a LAYER of the set");
        RUNS.onNew("kinds({12},{12})=9 kinds({12},{2})=2 kinds({12},{1})=4 kinds({24},{24})=11 kinds({24},{2})=4 kinds({24},{4})=0 "
            + "kinds({2},{2})=15 kinds({1},{1})=13 kinds({1},0)=2 kinds({12},{123})=0 kinds({12},0)=0 kinds({0123456789},{02468})=2 "
            + "kinds({0123456789},{0})=4 kinds({0123456789},{0123456789})=9 kinds({89},{8})=6 kinds({89},{89})=9 kinds({9},{9})=13 "
            + "kinds({0},{0})=15");
        RUNS.sentence("kinds: the empty set");
        RUNS.onNew("kinds(0,0)=15 kinds(0,1)=0 kinds(0,1023)=0");
    }

    private static void kindsToldNothing() {
        RUNS.sentence("KINDS of a COW that was told nothing ahead");
        RUNS.onLaid("m9;c3;k0;", "pass(1) rake(0,0,0) cut(0,0)={9} kinds({12},{12})=9 kinds({9},{9})=13");
        RUNS.sentence("KINDS (bits of 0 to 3), whatever COWS there are");
        RUNS.onLaid("m9;c1;k0;", "kinds({2},{2})=15 kinds({13},{13})=9");
    }

    private static void kindsBad() {
        RUNS.sentence("a set and a told set (0 to 1023)");
        RUNS.onNew("kinds(-1,0)=BAD kinds(0,0)=15 kinds(1023,1023)=9 kinds(1024,0)=BAD kinds(1023,1024)=BAD kinds(0,-1)=BAD "
            + "kinds(1024,1024)=BAD kinds(1025,1)=BAD kinds(1,1025)=BAD kinds(MIN,0)=BAD kinds(MAX,0)=BAD kinds(0,MIN)=BAD "
            + "kinds(0,MAX)=BAD");
    }

    private static void rainHours() {
        RUNS.sentence("in each of the next n (0 to 8) HOURS");
        RUNS.onLaid("m1;c0;k0;e1;", "rain(0,-1,5,1,0)=BAD rain(0,0,5,0,0)=1 rain(0,0,5,0,1)=1 rain(0,0,5,1,0)=0 rain(0,0,5,1,1)=1 "
            + "rain(0,1,5,1,0)=1 rain(0,1,5,1,1)=1 rain(0,1,5,2,0)=1 rain(0,1,5,2,1)=2 rain(0,8,5,32,0)=1 rain(0,8,5,32,1)=256 "
            + "rain(0,8,5,33,0)=0 rain(0,8,5,33,1)=1 rain(0,7,5,28,1)=128 rain(0,9,5,1,0)=BAD rain(0,MIN,5,1,0)=BAD "
            + "rain(0,MAX,5,1,0)=BAD count(3)=0 mower(0,2)=0");
    }

    private static void rainTenths() {
        RUNS.sentence("it rains by x (0 to 10) of ten");
        RUNS.onLaid("m1;c0;k0;", "rain(0,1,-1,1,0)=BAD rain(0,1,0,1,0)=0 rain(0,1,0,1,1)=1 rain(0,1,1,1,0)=1 rain(0,1,1,1,1)=10 "
            + "rain(0,1,2,1,0)=1 rain(0,1,2,1,1)=5 rain(0,1,9,1,0)=9 rain(0,1,9,1,1)=10 rain(0,1,10,1,0)=1 rain(0,1,10,1,1)=1 "
            + "rain(0,1,11,1,0)=BAD rain(0,8,10,24,0)=1 rain(0,8,10,24,1)=1 rain(0,8,10,25,0)=0 rain(0,8,9,24,0)=43046721 "
            + "rain(0,8,9,24,1)=100000000 rain(0,8,1,24,0)=1 rain(0,8,1,24,1)=100000000 rain(0,8,0,0,0)=1 rain(0,8,0,1,0)=0 "
            + "rain(0,1,MIN,1,0)=BAD rain(0,1,MAX,1,0)=BAD");
    }

    private static void rainWet() {
        RUNS.sentence("each SWATHE is WET by 3 more than else: WET by w or more");
        RUNS.onLaid("m1;m2;c0;k0;", "rain(0,1,3,0,0)=1 rain(0,1,3,1,0)=3 rain(0,1,3,1,1)=10 rain(0,1,3,2,0)=3 rain(0,1,3,3,0)=3 "
            + "rain(0,1,3,3,1)=10 rain(0,1,3,4,0)=0 rain(0,1,3,4,1)=1");
        RUNS.onLaid("m1;m2;c0;k0;e2;", "rain(0,1,3,2,0)=1 rain(0,1,3,2,1)=1 rain(0,1,3,3,0)=3 rain(0,1,3,5,0)=3 rain(0,1,3,6,0)=0 "
            + "rain(0,2,5,4,0)=1 rain(0,2,5,4,1)=1 rain(0,2,5,5,0)=3 rain(0,2,5,5,1)=4 rain(0,2,5,7,0)=3 rain(0,2,5,8,0)=1 "
            + "rain(0,2,5,8,1)=4 rain(0,2,5,10,0)=1 rain(0,2,5,10,1)=4 rain(0,2,5,11,0)=0 pass(3) turn(0)=6 rain(0,1,3,6,0)=0 "
            + "rain(1,1,3,8,0)=1 rain(1,1,3,9,0)=3 rain(1,1,3,11,1)=10 rain(1,1,3,12,0)=0");
        RUNS.sentence("for itself: each HOUR of its own");
        RUNS.onLaid("m1;c0;k0;", "rain(0,2,1,3,0)=19 rain(0,2,1,3,1)=100 rain(0,2,1,4,0)=1 rain(0,2,1,4,1)=100 rain(0,3,5,4,0)=1 "
            + "rain(0,3,5,4,1)=2 rain(0,3,5,7,0)=1 rain(0,3,5,7,1)=8 rain(0,8,5,12,0)=163 rain(0,8,5,12,1)=256");
    }

    private static void rainAtMost() {
        RUNS.sentence("w (0 to 99); 99 at most");
        RUNS.onLaid("m1;c0;k0;e3;", "pass(24) pass(7) mower(0,2)=93 rain(0,1,5,96,0)=1 rain(0,1,5,96,1)=1 rain(0,1,5,97,1)=2 "
            + "rain(0,1,5,99,0)=1 rain(0,1,5,99,1)=2 rain(0,1,5,100,0)=BAD rain(0,2,0,99,0)=1 rain(0,2,0,99,1)=1 pass(2) "
            + "mower(0,2)=99 rain(0,0,5,99,0)=1 rain(0,0,5,99,1)=1 rain(0,8,5,99,0)=1 rain(0,8,5,99,1)=1 rain(0,8,5,-1,0)=BAD "
            + "rain(0,8,5,0,0)=1");
        RUNS.onLaid("m1;c0;k0;e3;", "pass(24) pass(8) mower(0,2)=96 rain(0,0,5,96,0)=1 rain(0,0,5,97,0)=0 rain(0,0,5,99,0)=0 "
            + "rain(0,1,5,99,0)=1 rain(0,1,5,99,1)=1");
    }

    private static void rainBad() {
        RUNS.sentence("rain: BAD");
        RUNS.onLaid("m1;m2;c0;k0;", "rain(-1,1,1,1,0)=BAD rain(1,1,1,1,0)=1 rain(2,1,1,1,0)=BAD rain(0,1,1,1,-1)=BAD rain(0,1,1,1,2)=BAD "
            + "rain(MIN,1,1,1,0)=BAD rain(MAX,1,1,1,0)=BAD rain(0,1,1,MIN,0)=BAD rain(0,1,1,MAX,0)=BAD rain(0,1,1,1,MIN)=BAD "
            + "rain(0,1,1,1,MAX)=BAD rain(0,0,0,-1,0)=BAD rain(0,0,0,100,1)=BAD");
    }

    /** By z of 5, 0, 16, 1, 15, 2, 3 and 4 the DRAW ahead of the first HOUR is 0, 1, 2, .. 7 modulo 8. */
    private static void februaryDraws() {
        String text = "m1;c0;k0;";
        RUNS.sentence("if DRAW modulo 8 is 0 or 1, SWATHES are RAKED, and by no other DRAW");
        RUNS.onLaid(text, "pass(1) february(5,1,1)=1 february(0,1,1)=1 february(16,1,1)=0 february(1,1,1)=0 february(15,1,1)=0 "
            + "february(2,1,1)=0 february(3,1,1)=0 february(4,1,1)=0 february(5,1,0)=0 february(0,1,0)=0");
        RUNS.sentence("if 2 or 3, the top LAYER is CUT, and by no other DRAW");
        RUNS.onLaid(text, "pass(1) rake(0,0,0) february(5,1,1)=1 february(0,1,1)=1 february(16,1,1)=0 february(1,1,1)=0 "
            + "february(15,1,1)=1 february(2,1,1)=1 february(3,1,1)=1 february(4,1,1)=1 february(5,1,0)=0 february(0,1,0)=0 "
            + "february(16,1,0)=1 february(1,1,0)=1 february(15,1,0)=0 february(2,1,0)=0 february(3,1,0)=0 february(4,1,0)=0");
    }

    private static void februaryModulo() {
        RUNS.sentence("MOWERS 0 to (DRAW by 8, cut) modulo as many as there are");
        // by z of 0, 5, 7, 43 and 8 the last of five MOWERS is 0, 1, 2, 3 and 4
        RUNS.onLaid("m1;m2;m3;m4;m5;c0;k0;", "pass(1) rake(0,3,0)=1 february(43,1,1)=1 february(8,1,1)=2");
        RUNS.onLaid("m1;m2;m3;m4;m5;c0;k0;", "pass(1) rake(0,1,0)=1 february(5,1,1)=1 february(7,1,1)=2 february(43,1,1)=2");
        RUNS.onLaid("m1;m2;m3;m4;m5;c0;k0;", "pass(1) rake(0,0,0)=1 february(0,1,1)=1 february(5,1,1)=2 february(8,1,1)=2");
        RUNS.onLaid("m1;m2;m3;m4;m5;c0;k0;", "pass(1) rake(1,4,0)=1 february(0,1,1)=2 february(5,1,1)=2 february(8,1,1)=2");
        RUNS.sentence("RICK (DRAW by 64, cut) modulo as many");
        // by z of 16, 29 and 1 of three RICKS 0, 1 and 2 is CUT
        RUNS.onLaid("m1;c0;k0;k0;k0;", "pass(1) rake(0,0,0) february(16,1,1)=0 february(29,1,1)=1 february(1,1,1)=1");
        RUNS.onLaid("m1;c0;k0;k0;k0;", "pass(1) rake(0,0,1) february(16,1,1)=1 february(29,1,1)=0 february(1,1,1)=1");
        RUNS.onLaid("m1;c0;k0;k0;k0;", "pass(1) rake(0,0,2) february(16,1,1)=1 february(29,1,1)=1 february(1,1,1)=0");
        RUNS.sentence("COW (DRAW by 8, cut) modulo as many");
        // by z of 38, 27, 16 and 20 it is CUT for COW 0, 1, 2 and 3 of four, a DEAF one is told nothing of a 1
        RUNS.onLaid("m1;c0;c1;c1;c1;k0;", "pass(1) rake(0,0,0) february(38,1,0)=1 february(27,1,0)=0 february(16,1,0)=0 "
            + "february(20,1,0)=0 february(20,1,1)=0");
        RUNS.onLaid("m1;c1;c0;c1;c1;k0;", "pass(1) rake(0,0,0) february(38,1,0)=0 february(27,1,0)=1 february(16,1,0)=0 "
            + "february(20,1,0)=0");
        RUNS.onLaid("m1;c1;c1;c1;c0;k0;", "pass(1) rake(0,0,0) february(38,1,0)=0 february(27,1,0)=0 february(16,1,0)=0 "
            + "february(20,1,0)=1");
    }

    private static void februaryIfItCanBe() {
        String full = "pass(1) rake(0,0,0) pass(1) rake(0,0,0) pass(1) rake(0,0,0) pass(1) rake(0,0,0) pass(1) rake(0,0,0) "
            + "pass(1) rake(0,0,0) pass(1) rake(0,0,0)=7 ";
        RUNS.sentence("each if it can be: nothing lies, the RICK is empty, it is dry");
        RUNS.onLaid("m1;c0;k0;", "february(5,1,1)=0 february(0,1,1)=0 february(16,1,1)=0 february(16,1,0)=0 february(1,1,0)=0 "
            + "february(15,1,1)=0 pass(1) rake(0,0,0) february(0,1,1)=1 february(5,1,1)=1");
        RUNS.sentence("each if it can be: the RICK has 8 LAYERS");
        RUNS.onLaid("m1;c0;k0;", full + "pass(1) february(0,1,1)=8 rake(0,0,0)=8 pass(1) february(0,1,1)=8 february(5,1,1)=8 "
            + "february(1,1,1)=7 february(16,1,1)=7 february(4,1,1)=8");
    }

    private static void februaryTurns() {
        RUNS.sentence("if 4, the SWATHE of MOWER (DRAW by 8, cut) modulo as many is TURNED");
        // 4, then 1; 5, then 0: what is TURNED is raked as WET as the HOUR between, what is not BURNS
        RUNS.onLaid("m1;c0;k0;e3;", "pass(20) february(15,2,1)=1 february(15,2,2)=0 february(2,2,1)=0 february(2,2,2)=1 "
            + "mower(0,2)=60");
        // by z of 142 and 15 it is MOWER 0 and 1 of two, then MOWER 0 alone, and both are raked
        RUNS.onLaid("m1;m2;c0;k0;e3;", "pass(20) february(142,2,2)=0 february(142,2,1)=1 february(15,2,2)=1 turn(0) february(15,2,2)=0 "
            + "february(15,2,1)=1");
    }

    private static void februaryTold() {
        RUNS.sentence("how many WORDS each COW was told, summed over all COWS, then");
        RUNS.onLaid("m12;c0;c0;k0;", "pass(2) rake(0,0,0) pass(1) rake(0,0,0) cut(0,1)={1} february(0,1,0)=1 february(16,1,0)=3 "
            + "february(20,1,0)=2 cut(0,0)={12} february(0,1,0)=3 count(6)=3");
        RUNS.sentence("how many LAYERS there are");
        RUNS.onLaid("m1;c0;k0;k0;", "pass(1) rake(0,0,0) pass(1) rake(0,0,1) february(2,1,1)=2 february(2,2,1)=3 count(4)=2");
        RUNS.sentence("how often a RICK BURNT in it");
        RUNS.onLaid("m1;c0;k0;k0;e3;", "pass(14) rake(0,0,0) february(2,1,2)=1 february(2,1,1)=0 pass(1) count(5)=1 february(2,1,2)=0 "
            + "pass(13) rake(0,0,1) february(2,1,2)=1 pass(1) count(5)=2 february(2,1,2)=0");
        RUNS.onLaid("m1;m2;c0;k0;k0;e3;", "pass(14) rake(0,0,0) rake(1,1,1) february(2,1,2)=2 february(2,1,1)=0 count(5)=0");
        RUNS.sentence("nothing changes by it");
        RUNS.onLaid("m1;c0;k0;e3;", "pass(14) rake(0,0,0) pass(0) february(0,60,0) february(9999,60,1) february(1,60,2) count(3)=14 "
            + "count(4)=1 count(5)=0 count(6)=0 count(8)=2 layer(0,0,2)=0 layer(0,0,1)=42 mower(0,1)=0 undo()=1 mower(0,2)=42");
    }

    private static void februaryBad() {
        RUNS.sentence("z (0 to 9999)");
        RUNS.onLaid("m1;c0;k0;", "pass(1) rake(0,0,0) february(-1,1,0)=BAD february(0,1,0)=0 february(9998,1,0)=1 february(9999,1,0)=0 "
            + "february(10000,1,0)=BAD february(MIN,1,0)=BAD february(MAX,1,0)=BAD");
        RUNS.sentence("of n (1 to 60) HOURS");
        RUNS.onLaid("m1;c0;k0;e1;", "pass(1) rake(0,0,0) february(0,0,1)=BAD february(0,-1,1)=BAD february(0,1,1)=1 february(0,61,1)=BAD "
            + "february(0,MIN,1)=BAD february(0,MAX,1)=BAD");
        RUNS.onNew("february(5,60,0)=9 february(5,60,1)=1 february(5,60,2)=5 february(5,61,0)=BAD");
        RUNS.sentence("february: what");
        RUNS.onNew("february(5,60,-1)=BAD february(5,60,3)=BAD february(5,60,MIN)=BAD february(5,60,MAX)=BAD february(5,61,3)=BAD");
    }

    private static void keptAtMost() {
        RUNS.sentence("KEPT: 2 at most");
        RUNS.onNew("keep()=1 count(9)=1 keep()=2 count(9)=2 keep()=FULL count(9)=2 back()=1 keep()=2 keep()=FULL back()=1 back()=0 "
            + "back()=NO count(9)=0");
        RUNS.sentence("keep: FULL: what is KEPT does not change then");
        RUNS.onNew("pass(1) keep()=1 pass(1) keep()=2 pass(1) keep()=FULL pass(1)=4 back()=1 count(3)=2 back()=0 count(3)=1 back()=NO "
            + "count(3)=1");
        RUNS.sentence("As KEPT last (it is KEPT no more then)");
        RUNS.onNew("pass(1) keep()=1 pass(1) keep()=2 back()=1 count(3)=2 pass(3) keep()=2 pass(1) back()=1 count(3)=5 back()=0 "
            + "count(3)=1");
    }

    private static void keptIsAll() {
        RUNS.sentence("KEPT is all as it stands");
        RUNS.onLaid("m12;m3;c0;c1;k0;k9;e1;", "pass(24) pass(16) rake(0,0,0) pass(1) count(5)=1 rake(0,0,0) rake(1,1,1) pass(1) "
            + "cut(0,0)={1} rake(0,0,0) keep()=1 pass(1) rake(0,1,0) cut(0,0)={3} cut(0,1)={2} pass(9) turn(0)=9 count(5)=2 "
            + "back()=0 count(3)=42 count(4)=2 count(5)=1 count(6)=1 mower(0,0)=1 mower(0,1)=0 mower(0,2)=0 mower(1,0)=3 "
            + "mower(1,1)={3} mower(1,2)=1 cow(0,1)={1} cow(1,1)=0 rick(0,1)=1 rick(0,2)=0 rick(0,3)=1 rick(1,1)=1 rick(1,2)=32 "
            + "rick(1,3)=0 layer(0,0,0)={2} layer(0,0,1)=1 layer(0,0,2)=0 layer(1,0,0)={3} layer(1,0,1)=41 layer(1,0,2)=32");
    }

    private static void keptIsNot() {
        RUNS.sentence("KEPT is not what is SEEN and THE TEXT (these stay by back())");
        RUNS.onNew("see(3,0)=1 write(109)=1 keep()=1 see(4,4)=2 write(49)=2 back()=0 count(7)=2 count(10)=2 keep()=1 forget()=2 "
            + "wipe()=2 back()=0 count(7)=0 count(10)=0");
        RUNS.sentence("back(), behind which nothing can be UNDONE");
        RUNS.onNew("pass(1) pass(1) keep()=1 count(8)=2 pass(1) count(8)=3 back()=0 count(8)=0 undo()=NO count(3)=2 pass(1) count(8)=1 "
            + "undo()=0 count(3)=2 undo()=NO");
        RUNS.sentence("KEPT is not UNDONE, nor what is UNDONE ahead of it KEPT no more");
        RUNS.onNew("pass(1) keep()=1 undo()=0 count(9)=1 count(3)=0 back()=0 count(3)=1 count(8)=0");
        RUNS.sentence("back: NO: nothing changes");
        RUNS.onNew("pass(1) pass(1) back()=NO count(8)=2 undo()=1 back()=NO count(8)=1 count(3)=1");
    }

    private static void countOfEach() {
        RUNS.sentence("How many: 0 .. 10. BAD");
        RUNS.onNew("count(-1)=BAD count(0)=4 count(10)=0 count(11)=BAD count(MIN)=BAD count(MAX)=BAD");
        RUNS.onLaid("m1;m2;m3;c0;c0;k0;e3;", "count(0)=3 count(1)=2 count(2)=1 count(10)=21 write(32) count(10)=22 wipe() count(10)=0 "
            + "pass(5) count(3)=5 rake(0,0,0) rake(1,2,0) count(4)=2 cut(0,0)={23} count(4)=1 count(6)=2 pass(1) rake(0,2,0) "
            + "cut(0,1)={123} count(6)=5 pass(9) count(5)=1 count(4)=0 see(1,1) see(1,1) count(7)=2 count(8)=8 keep() count(9)=1");
    }
}
