/** The edges that section 1 of "Terms" and promises 1 to 5 name, sentence by sentence. */
public final class EdgesOfTextTest {
    private static final Due DUE = new Due();
    private static final Runs RUNS = new Runs(DUE);
    private static final int NONE = HayTalk.NONE;

    public static void main(String[] args) {
        lettersOfText();
        textOfTwoHundred();
        lettersWritten();
        semicolons();
        numbers();
        rows();
        figuresOfRows();
        mowersAtMost();
        wordsOverAndOver();
        hoursOverAndOver();
        weatherAtLast();
        kindsOfCows();
        thatches();
        placeOfFault();
        laidOfEach();
        newObject();
        usedAtMost();
        wipe();
        layEndsThese();
        nothingOfEarlierTexts();
        DUE.end("EdgesOfTextTest");
    }

    private static void lettersOfText() {
        RUNS.sentence("A TEXT is letters (200 at most)");
        RUNS.onNew("199*write(59) count(10)=199 write(59)=200 write(59)=FULL count(10)=200");
        RUNS.onNew("200*write(59) 3*write(59)=FULL wipe()=200 count(10)=0 write(59)=1");
    }

    private static void textOfTwoHundred() {
        RUNS.sentence("a TEXT of 200 letters is read to its last ITEM");
        String ahead = "m1;c0;k0;" + "e000000000;".repeat(17);
        DUE.due("its letters", (ahead + "e12;").length(), 200);
        RUNS.fault(ahead + "e12;", NONE);
        RUNS.onLaid(ahead + "e12;", "count(10)=200 behind(1,0,1)=1 behind(2,0,1)=3 behind(3,0,1)=4");
        RUNS.fault(ahead + "e14;", 196);
        RUNS.fault(ahead + "e123;", 196);
        RUNS.fault(ahead + "e1;", NONE);
        RUNS.fault(ahead + "e1;e", 199);
    }

    private static void lettersWritten() {
        RUNS.sentence("A letter (32 to 126, as in ASCII)");
        RUNS.onNew("write(31)=BAD count(10)=0 write(32)=1 write(33)=2");
        RUNS.onNew("write(127)=BAD count(10)=0 write(126)=1 write(125)=2");
        RUNS.onNew("write(-1)=BAD write(0)=BAD write(128)=BAD write(MIN)=BAD write(MAX)=BAD count(10)=0");
        // a letter by its lowest eight or sixteen bits would be a 1 of these
        RUNS.onNew("write(305)=BAD write(65585)=BAD write(-207)=BAD count(10)=0");
        RUNS.sentence("write: BAD; FULL");
        RUNS.onNew("199*write(48) write(31)=BAD write(127)=BAD write(48)=200 write(31)=BAD write(127)=BAD write(48)=FULL");
    }

    private static void semicolons() {
        RUNS.sentence("and a ; behind it");
        RUNS.fault("m1", 0);
        RUNS.fault("m1;", NONE);
        RUNS.fault("m1;c0", 3);
        RUNS.fault("m1;c0;", NONE);
        RUNS.fault("m1;;", 3);
        RUNS.fault(";", 0);
        RUNS.fault("m1:", 0);
        RUNS.sentence("ITEMS one behind the other");
        RUNS.fault(" m1;", 0);
        RUNS.fault("m1; c0;", 3);
        RUNS.fault("m1;c0; ", 6);
        RUNS.fault("", NONE);
        RUNS.sentence("each a letter, then what it tells");
        for (int letter = 32; letter <= 126; letter++) {
            RUNS.fault((char) letter + "1;", "meck".indexOf(letter) >= 0 ? NONE : 0);
        }
    }

    private static void numbers() {
        RUNS.sentence("numbers: one or two figures");
        for (char letter : new char[] {'c', 'k'}) {
            RUNS.fault(letter + ";", 0);
            RUNS.fault(letter + "3;", NONE);
            RUNS.fault(letter + "03;", NONE);
            RUNS.fault(letter + "003;", 0);
            RUNS.fault(letter + "0;", NONE);
            RUNS.fault(letter + "00;", NONE);
            RUNS.fault(letter + "000;", 0);
            RUNS.fault(letter + "/;", 0);
            RUNS.fault(letter + ":;", 0);
            RUNS.fault(letter + "0/;", 0);
            RUNS.fault(letter + "0:;", 0);
            RUNS.fault(letter + "-1;", 0);
            RUNS.fault(letter + "+1;", 0);
            RUNS.fault(letter + " 1;", 0);
            RUNS.fault(letter + "1 ;", 0);
        }
        RUNS.sentence("parted by ,: a COW and a RICK have one number each");
        RUNS.fault("c0,1;", 0);
        RUNS.fault("c0,;", 0);
        RUNS.fault("c,0;", 0);
        RUNS.fault("k0,1;", 0);
    }

    private static void rows() {
        RUNS.sentence("a row of 1 to 9");
        for (char letter : new char[] {'m', 'e'}) {
            RUNS.fault(letter + ";", 0);
            RUNS.fault(letter + "1;", NONE);
            RUNS.fault(letter + "12;", NONE);
            RUNS.fault(letter + "12301230;", NONE);
            RUNS.fault(letter + "123012301;", NONE);
            RUNS.fault(letter + "1230123012;", 0);
        }
        RUNS.onLaid("m123456789;c0;k0;e111111112;", "behind(8,0,0)={12345678} behind(9,0,0)={123456789} "
            + "behind(8,0,1)=8 behind(9,0,1)=10");
        RUNS.sentence("a row: one figure for each, one next to the other");
        RUNS.fault("m1,2;", 0);
        RUNS.fault("m1 2;", 0);
        RUNS.fault("e1,2;", 0);
        RUNS.onLaid("m12;c0;k0;", "mower(0,0)=1 pass(1) mower(0,0)=2");
    }

    private static void figuresOfRows() {
        RUNS.sentence("WORDS, each 0 to 9");
        for (String figure : new String[] {"0", "9"}) {
            RUNS.fault("m" + figure + ";", NONE);
            RUNS.fault("m5" + figure + ";", NONE);
        }
        for (String sign : new String[] {"/", ":", "a", "-"}) {
            RUNS.fault("m" + sign + ";", 0);
            RUNS.fault("m5" + sign + ";", 0);
            RUNS.fault("m" + sign + "5;", 0);
        }
        RUNS.sentence("HOURS, each 0 dry to 3");
        for (String figure : new String[] {"0", "3"}) {
            RUNS.fault("e" + figure + ";", NONE);
            RUNS.fault("e1" + figure + ";", NONE);
        }
        for (String sign : new String[] {"/", "4", "9", ":"}) {
            RUNS.fault("e" + sign + ";", 0);
            RUNS.fault("e1" + sign + ";", 0);
            RUNS.fault("e" + sign + "1;", 0);
        }
        RUNS.onLaid("m1;c0;k0;e0;", "behind(1,0,1)=0");
        RUNS.onLaid("m1;c0;k0;e3;", "behind(1,0,1)=3");
    }

    private static void mowersAtMost() {
        RUNS.sentence("MOWERS: 5 at most, 0, 1, .., side by side");
        RUNS.fault("m1;m1;m1;m1;", NONE);
        RUNS.fault("m1;m1;m1;m1;m1;", NONE);
        RUNS.fault("m1;m1;m1;m1;m1;m1;", 15);
        RUNS.fault("m1;m1;m1;m1;c1;m1;m1;", 18);
        RUNS.onLaid("m5;m6;m7;m8;m9;c0;k0;", "mower(0,0)=5 mower(1,0)=6 mower(2,0)=7 mower(3,0)=8 mower(4,0)=9 "
            + "mower(5,0)=BAD mower(-1,0)=BAD count(0)=5");
        RUNS.onLaid("k0;m5;c0;m6;", "mower(0,0)=5 mower(1,0)=6 mower(2,0)=BAD count(0)=2");
    }

    private static void wordsOverAndOver() {
        RUNS.sentence("who says the WORDS R over and over");
        RUNS.onLaid("m7;c0;k0;", "mower(0,0)=7 pass(1) mower(0,0)=7 pass(24) mower(0,0)=7");
        RUNS.onLaid("m79;c0;k0;", "mower(0,0)=7 pass(1) mower(0,0)=9 pass(1) mower(0,0)=7");
        RUNS.onLaid("m012345678;c0;k0;", "pass(8) mower(0,0)=8 pass(1) mower(0,0)=0 pass(1) mower(0,0)=1 "
            + "pass(7) mower(0,0)=8 pass(1) mower(0,0)=0");
    }

    private static void hoursOverAndOver() {
        RUNS.sentence("the WEATHER of HOURS 0, 1, .., over and over");
        RUNS.onLaid("m1;c0;k0;e100000002;", "pass(1) mower(0,2)=1 pass(7) mower(0,2)=1 pass(1) mower(0,2)=3 "
            + "pass(1) mower(0,2)=4 pass(8) mower(0,2)=6 pass(1) mower(0,2)=7");
        RUNS.onLaid("m1;c0;k0;e2;", "behind(1,0,1)=2 behind(2,0,1)=4 behind(40,0,1)=80");
        RUNS.sentence("0 without");
        RUNS.onLaid("m1;c0;k0;", "behind(1,0,1)=0 behind(40,0,1)=0 pass(24) mower(0,2)=0 turn(0)=NO");
    }

    private static void weatherAtLast() {
        RUNS.sentence("of several such the last one counts");
        RUNS.onLaid("e3;e1;m1;c0;k0;", "behind(2,0,1)=2");
        RUNS.onLaid("e1;e3;m1;c0;k0;", "behind(2,0,1)=6");
        RUNS.onLaid("e333;e1;m1;c0;k0;", "behind(4,0,1)=4");
        RUNS.onLaid("e1;e333;m1;c0;k0;", "behind(4,0,1)=12");
        RUNS.onLaid("e3;m1;e2;c0;e1;k0;e0;", "behind(40,0,1)=0");
        RUNS.fault("e1;e1;e1;e1;e1;e1;e1;", NONE);
        RUNS.sentence("0 without, whatever was laid ahead");
        HayTalk hay = Due.laid("m1;c0;k0;e3;");
        for (int laid = 0; laid < 3; laid++) {
            Due.relay(hay, "m1;c0;k0;");
            DUE.due("no weather", hay.behind(40, 0, 1), 0);
        }
        Due.relay(hay, "m1;c0;k0;e1;");
        DUE.due("weather again", hay.behind(40, 0, 1), 40);
    }

    private static void kindsOfCows() {
        RUNS.sentence("a COW of KIND K (0 PLAIN, 1 DEAF, 2 SLOW, 3 FULL OF IT)");
        RUNS.fault("c0;", NONE);
        RUNS.fault("c3;", NONE);
        RUNS.fault("c4;", 0);
        RUNS.fault("c03;", NONE);
        RUNS.fault("c04;", 0);
        RUNS.fault("c10;", 0);
        RUNS.fault("c13;", 0);
        RUNS.fault("c30;", 0);
        RUNS.onLaid("m1;k0;c03;c02;c01;c00;", "cow(0,0)=3 cow(1,0)=2 cow(2,0)=1 cow(3,0)=0");
        RUNS.sentence("COWS: 4 at most, 0, 1, ..");
        RUNS.fault("c0;c0;c0;", NONE);
        RUNS.fault("c0;c0;c0;c0;", NONE);
        RUNS.fault("c0;c0;c0;c0;c0;", 12);
        RUNS.fault("c0;c0;c0;m1;c0;c0;", 15);
        RUNS.onLaid("c3;m1;c0;k0;c2;", "cow(0,0)=3 cow(1,0)=0 cow(2,0)=2 cow(3,0)=BAD count(1)=3");
    }

    private static void thatches() {
        RUNS.sentence("a RICK THATCHED by T (0 to 9)");
        RUNS.fault("k0;", NONE);
        RUNS.fault("k9;", NONE);
        RUNS.fault("k09;", NONE);
        RUNS.fault("k10;", 0);
        RUNS.fault("k90;", 0);
        RUNS.fault("k99;", 0);
        RUNS.onLaid("m1;c0;k0;k9;k09;", "rick(0,0)=0 rick(1,0)=9 rick(2,0)=9");
        RUNS.sentence("RICKS: 3 at most, 0, 1, ..");
        RUNS.fault("k0;k0;", NONE);
        RUNS.fault("k0;k0;k0;", NONE);
        RUNS.fault("k0;k0;k0;k0;", 9);
        RUNS.fault("k0;k0;m1;k0;k0;", 12);
        RUNS.onLaid("k4;m1;k6;c0;", "rick(0,0)=4 rick(1,0)=6 rick(2,0)=BAD count(2)=2");
    }

    private static void placeOfFault() {
        RUNS.sentence("the place (from 0 on) of the first letter of the first ITEM that is not so");
        RUNS.fault("x1;m1;", 0);
        RUNS.fault("m1;x1;", 3);
        RUNS.fault("m12;x1;", 4);
        RUNS.fault("m1;c4;k10;", 3);
        RUNS.fault("m1;c3;k10;", 6);
        RUNS.fault("m1;c3;k9;", NONE);
        RUNS.fault("c0;m12x;", 3);
        RUNS.fault("c0;m1", 3);
        RUNS.fault("c0;m", 3);
        RUNS.onNew("fault()=NONE write(109)=1 fault()=0 write(49)=2 fault()=0 write(59)=3 fault()=NONE write(32)=4 fault()=3");
    }

    private static void laidOfEach() {
        RUNS.sentence("a TEXT without FAULT, of a MOWER, a COW and a RICK at least (NO else)");
        RUNS.onLaid("m1;c0;k0;", "count(0)=1 count(1)=1 count(2)=1");
        for (String text : new String[] {"", "e1;", "m1;c0;", "m1;k0;", "c0;k0;", "m1;m1;c0;c0;e1;", "m1;c0;k0;x",
                "m1;c0;k0;e4;", "m1;c0;k0", "m1;c0;k0;k0;k0;k0;", "xm1;c0;k0;"}) {
            HayTalk hay = Due.written(text);
            DUE.due("lay of '" + text + "'", hay.lay(), HayTalk.NO);
            DUE.due("mowers behind lay of '" + text + "'", hay.count(0), 4);
            DUE.due("letters behind lay of '" + text + "'", hay.count(10), text.length());
        }
        RUNS.sentence("lay: how many MOWERS");
        String five = "m1;m1;m1;m1;m1;";
        for (int mowers = 1; mowers <= 5; mowers++) {
            DUE.due("lay of " + mowers, Due.written(five.substring(0, 3 * mowers) + "c0;k0;").lay(), mowers);
        }
    }

    private static void newObject() {
        RUNS.sentence("at first m314;m2718;m5;m9902;e0120;c0;c1;c2;c3;k2;k0;k5;");
        RUNS.onNew("count(0)=4 count(1)=4 count(2)=3 behind(3,0,0)={314} behind(2,0,0)={31} behind(4,1,0)={2718} "
            + "behind(3,1,0)={271} behind(40,2,0)={5} behind(2,3,0)={9} behind(3,3,0)={90} behind(4,3,0)={902} "
            + "behind(1,0,1)=0 behind(2,0,1)=1 behind(3,0,1)=3 behind(4,0,1)=3 behind(5,0,1)=3 behind(6,0,1)=4");
        RUNS.onNew("cow(0,0)=0 cow(1,0)=1 cow(2,0)=2 cow(3,0)=3 rick(0,0)=2 rick(1,0)=0 rick(2,0)=5");
        RUNS.sentence("THE TEXT is empty");
        RUNS.onNew("count(10)=0 wipe()=0 fault()=NONE lay()=NO count(0)=4");
        RUNS.sentence("HOUR 0 is next, SWATHES and RICKS are empty, COWS are told nothing");
        RUNS.onNew("count(3)=0 count(4)=0 count(5)=0 count(6)=0 count(7)=0 count(8)=0 count(9)=0 mower(3,1)=0 mower(3,2)=0");
    }

    private static void usedAtMost() {
        RUNS.sentence("An object is used for at most 512 calls");
        RUNS.onNew("511*write(31)=BAD write(59)=1");
        RUNS.onNew("41*pass(24) pass(14)=998 468*pass(2)=NO pass(1)=999 undo()=7");
        RUNS.onNew("100*pass(1) 411*february(77,60,2) pass(1)=101");
    }

    private static void wipe() {
        RUNS.sentence("THE TEXT is empty: how long it was");
        RUNS.onNew("wipe()=0 write(109)=1 wipe()=1 wipe()=0 count(10)=0 fault()=NONE");
        RUNS.onNew("write(120)=1 fault()=0 wipe()=1 fault()=NONE write(120)=1 fault()=0");
        RUNS.onNew("3*write(120) fault()=0 wipe()=3 write(109)=1 write(49)=2 write(59)=3 fault()=NONE");
        RUNS.onLaid("m12;c3;k7;", "wipe()=10 count(0)=1 mower(0,0)=1 cow(0,0)=3 rick(0,0)=7 lay()=NO count(0)=1");
    }

    private static void layEndsThese() {
        String text = "m1;c0;k0;e2;";
        RUNS.sentence("lay: nothing SEEN");
        RUNS.onLaid(text, "see(2,0)=1 which()=0 lay()=1 count(7)=0 which()=1 forget()=0 see(1,0)=1");
        RUNS.sentence("lay: nothing UNDONE");
        RUNS.onLaid(text, "10*pass(1) count(8)=8 lay()=1 count(8)=0 undo()=NO pass(1)=1 count(8)=1 undo()=0 undo()=NO");
        RUNS.sentence("lay: nothing KEPT");
        RUNS.onLaid(text, "pass(1) keep()=1 keep()=2 lay()=1 count(9)=0 back()=NO keep()=1 keep()=2 keep()=FULL");
        RUNS.sentence("lay: THE TEXT stays");
        RUNS.onLaid(text, "count(10)=12 lay()=1 count(10)=12 fault()=NONE wipe()=12");
        RUNS.sentence("lay: as told, HOUR 0 is next, all is empty");
        RUNS.onLaid(text, "pass(24) rake(0,0,0)=1 pass(1) count(5)=1 pass(1) rake(0,0,0)=1 cut(0,0)={1} pass(1) "
            + "rake(0,0,0)=1 pass(2) lay()=1 count(3)=0 count(4)=0 count(5)=0 count(6)=0 mower(0,1)=0 mower(0,2)=0 "
            + "rick(0,1)=0 rick(0,2)=0 rick(0,3)=0 cow(0,1)=0 behind(1,0,1)=2");
        RUNS.sentence("lay: NO, nothing changes then");
        RUNS.onLaid(text, "pass(3) see(1,0) keep() write(120) lay()=NO count(3)=3 count(7)=1 count(8)=1 count(9)=1 "
            + "count(10)=13 mower(0,2)=6 undo()=0 back()=0 count(3)=3");
    }

    private static void nothingOfEarlierTexts() {
        RUNS.sentence("LAID is a TEXT: nothing of one that was LAID or read ahead");
        String full = "m123456789;m5;m6;m7;m8;e123;c3;c2;c1;c0;k9;k8;k7;";
        String small = "c0;k0;m46;";
        String told = "count(0)=1 count(1)=1 count(2)=1 mower(0,0)=4 mower(1,0)=BAD cow(0,0)=0 cow(1,0)=BAD rick(0,0)=0 "
            + "rick(1,0)=BAD behind(1,0,0)={4} behind(2,0,0)={46} behind(9,0,0)={46} behind(9,0,1)=0 first(4,1)=0 "
            + "first(5,0)=NONE see(4,8)=1 which()=1 forget()=1 pass(3)=3 mower(0,0)=6 mower(0,2)=0 rake(0,0,0)=1";
        HayTalk laid = Due.laid(full);
        for (int again = 0; again < 3; again++) {
            Due.relay(laid, small);
            RUNS.on(laid, 0, told);
        }
        HayTalk back = Due.laid(small);
        Due.relay(back, full);
        RUNS.on(back, 0, "count(0)=5 count(1)=4 count(2)=3 mower(0,0)=1 behind(9,0,0)={123456789} behind(9,4,0)={8} "
            + "behind(3,4,1)=6 cow(0,0)=3 cow(3,0)=0 rick(0,0)=9 rick(2,0)=7");
        Due.relay(back, small);
        RUNS.on(back, 0, told);
        for (String read : new String[] {full, full + "x", "m987654321;e333;c3;k9"}) {
            HayTalk hay = Due.written(read);
            hay.fault();
            hay.lay();
            Due.relay(hay, small);
            RUNS.on(hay, 0, told);
        }
    }
}
