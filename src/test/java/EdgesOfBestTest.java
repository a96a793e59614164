/** The edges that section 3 of "Terms" and promises 16 to 22 name, sentence by sentence. */
public final class EdgesOfBestTest {
    private static final Due DUE = new Due();
    private static final Runs RUNS = new Runs(DUE);

    /** Each MOWER says its own number, so that a LAYER of MOWERS a to b has just the WORDS a to b. */
    private static final String NUMBERS = "m0;m1;m2;m3;m4;";
    private static final String RICKS = "k0;k0;k0;";

    public static void main(String[] args) {
        behindHours();
        behindWet();
        burnsInHours();
        burnsNot();
        burnsNext();
        tellFewest();
        tellFromTop();
        tellFirstOfSeveral();
        tellInOrder();
        tellByKind();
        tellToldAlready();
        tellNone();
        tellBad();
        rakesAll();
        rakesFewestOtherwise();
        rakesFirstOfSeveral();
        rakesNot();
        mostOfWords();
        mostOfSeveral();
        mostNone();
        firstSaid();
        firstNot();
        needleInLayers();
        needleInLowestTerms();
        needleNone();
        DUE.end("EdgesOfBestTest");
    }

    private static void behindHours() {
        RUNS.sentence("BEHIND n (0 to 40) HOURS");
        RUNS.onLaid("m12;c0;k0;e1;", "behind(-1,0,0)=BAD behind(0,0,0)=0 behind(0,0,1)=0 behind(1,0,0)={1} behind(1,0,1)=1 "
            + "behind(39,0,1)=39 behind(40,0,1)=40 behind(41,0,1)=BAD behind(41,0,0)=BAD behind(MIN,0,0)=BAD behind(MAX,0,0)=BAD");
        RUNS.sentence("behind: BAD");
        RUNS.onLaid("m12;m3;c0;k0;", "behind(1,-1,0)=BAD behind(1,2,0)=BAD behind(1,1,0)={3} behind(1,1,-1)=BAD behind(1,1,2)=BAD "
            + "behind(0,2,0)=BAD behind(0,0,2)=BAD behind(1,MAX,0)=BAD behind(1,MIN,0)=BAD behind(1,0,MAX)=BAD behind(1,0,MIN)=BAD");
        RUNS.sentence("what lies in a SWATHE, nothing else being done");
        RUNS.onLaid("m123456789;c0;k0;", "pass(2) behind(0,0,0)={12} behind(6,0,0)={12345678} behind(7,0,0)={123456789} "
            + "rake(0,0,0) behind(0,0,0)=0 behind(1,0,0)={3} behind(8,0,0)={13456789} behind(9,0,0)={123456789} mower(0,1)=0 "
            + "count(3)=2");
    }

    private static void behindWet() {
        RUNS.sentence("how WET it is (99 at most)");
        RUNS.onLaid("m1;c0;k0;e3;", "behind(32,0,1)=96 behind(33,0,1)=99 behind(34,0,1)=99 behind(40,0,1)=99 mower(0,2)=0");
        RUNS.onLaid("m1;c0;k0;e1;", "2*pass(24) 2*pass(5) behind(40,0,1)=98 pass(1) behind(40,0,1)=99 pass(1) behind(40,0,1)=99 "
            + "behind(39,0,1)=99 behind(38,0,1)=98 turn(0)=60 behind(40,0,1)=40");
    }

    private static void burnsInHours() {
        RUNS.sentence("in which of the next HOURS (1 on) it BURNS first");
        RUNS.onLaid("m1;c0;k0;e1;", "pass(1) rake(0,0,0) burns(0)=40 pass(1) burns(0)=39 pass(24) pass(13) burns(0)=2 pass(1) "
            + "burns(0)=1 rick(0,1)=1 pass(1) rick(0,1)=0 rick(0,3)=1");
        RUNS.onLaid("m1;c0;k0;e1;", "pass(13) rake(0,0,0) burns(0)=4");
        RUNS.onLaid("m1;c0;k0;e1;", "pass(14) rake(0,0,0) burns(0)=3");
        RUNS.onLaid("m1;c0;k0;e1;", "pass(19) rake(0,0,0) burns(0)=3");
        RUNS.onLaid("m1;c0;k0;e1;", "pass(20) rake(0,0,0) burns(0)=2");
        RUNS.onLaid("m1;c0;k0;e1;", "pass(24) pass(15) rake(0,0,0) burns(0)=2");
        RUNS.onLaid("m1;c0;k0;e1;", "pass(24) pass(16) rake(0,0,0) burns(0)=1");
        // a LAYER that is hotter at all BURNS by the 40th HOUR, so the 60th is never told
        RUNS.onLaid("m1;c0;k9;e1;", "pass(9) rake(0,0,0) burns(0)=NONE pass(9) rake(0,0,0) burns(0)=NONE");
        RUNS.onLaid("m1;c0;k9;e1;", "pass(10) rake(0,0,0) burns(0)=40");
        RUNS.onLaid("m1;c0;k9;e1;", "pass(11) rake(0,0,0) burns(0)=20");
    }

    private static void burnsNot() {
        RUNS.sentence("burns: none");
        RUNS.onLaid("m1;c0;k0;k0;e1;", "burns(0)=NONE pass(5) turn(0) rake(0,0,0) burns(0)=NONE burns(1)=NONE pass(1) rake(0,0,0) "
            + "burns(0)=40 cut(0,0) burns(0)=NONE cut(0,0) burns(0)=NONE");
        RUNS.sentence("burns: BAD");
        RUNS.onLaid("m1;c0;k0;k0;", "burns(-1)=BAD burns(0)=NONE burns(1)=NONE burns(2)=BAD burns(MIN)=BAD burns(MAX)=BAD");
    }

    private static void burnsNext() {
        RUNS.sentence("it BURNS first of the next HOURS, not of those gone by");
        RUNS.onLaid("m1;m2;c0;k0;k0;e1;", "pass(24) pass(16) rake(0,0,0) burns(0)=1 burns(1)=NONE pass(1) rick(0,3)=1 "
            + "burns(0)=NONE rake(0,0,0) burns(0)=40 rake(1,1,1) burns(1)=1 burns(0)=40");
        RUNS.sentence("a RICK BURNS by what it is THATCHED by itself");
        RUNS.onLaid("m1;c0;k5;k0;e1;", "pass(10) rake(0,0,0) burns(0)=8 heap(0,1) burns(0)=NONE burns(1)=4 pass(1) burns(1)=3 "
            + "heap(1,0) layer(0,0,2)=10 burns(0)=6");
        RUNS.sentence("the LAYER that is as hot as 40 first");
        RUNS.onLaid("m1;c0;k0;e1;", "pass(2) rake(0,0,0) burns(0)=20 pass(5) rake(0,0,0) burns(0)=8 pass(1) rake(0,0,0) burns(0)=7 "
            + "cut(0,0) burns(0)=7 cut(0,0) burns(0)=14");
    }

    private static void tellFewest() {
        RUNS.sentence("the fewest LAYERS CUT for it now");
        RUNS.onLaid(NUMBERS + "c0;" + RICKS, "pass(1) rake(0,0,0) pass(1) rake(1,1,0) pass(1) rake(0,0,1) tell(0,{0},-1)=1 "
            + "tell(0,{0},0)=0 tell(0,{0},1)=1 tell(0,{0},2)=0 tell(0,{1},-1)=1 tell(0,{1},0)=1 tell(0,{1},1)=0 "
            + "tell(0,{01},-1)=2 tell(0,{01},0)=2 tell(0,{01},1)=0 tell(0,{01},2)=0 rick(0,1)=2 rick(1,1)=1 cow(0,1)=0");
        RUNS.onLaid(NUMBERS + "c0;" + RICKS, "pass(1) rake(0,0,0) pass(1) rake(1,1,0) pass(1) rake(2,2,1) pass(1) rake(0,2,2) "
            + "tell(0,{01},-1)=1 tell(0,{01},0)=0 tell(0,{01},2)=1 tell(0,{012},-1)=1 tell(0,{012},2)=1 tell(0,{3},-1)=NONE");
    }

    private static void tellFromTop() {
        RUNS.sentence("from the top of any RICKS");
        String eight = "pass(1) rake(1,1,0) pass(1) rake(0,0,0) pass(1) rake(0,0,0) pass(1) rake(0,0,0) pass(1) rake(0,0,0) pass(1) "
            + "rake(0,0,0) pass(1) rake(0,0,0) pass(1) rake(0,0,0)=8 ";
        RUNS.onLaid(NUMBERS + "c0;" + RICKS, eight + "tell(0,{0},-1)=1 tell(0,{1},-1)=8 tell(0,{1},0)=8 tell(0,{1},1)=0 "
            + "tell(0,{01},-1)=8 rake(1,1,2)=1 tell(0,{1},-1)=1 tell(0,{1},0)=0 tell(0,{1},2)=1 tell(0,{01},0)=1 tell(0,{01},2)=1");
        RUNS.onLaid(NUMBERS + "c0;" + RICKS, eight + "heap(0,2)=8 tell(0,{1},-1)=8 tell(0,{1},0)=0 tell(0,{1},1)=0 tell(0,{1},2)=8");
        RUNS.onLaid(NUMBERS + "c0;" + RICKS, eight + "rake(2,2,1) rake(3,3,2) pass(1) rake(0,0,1) pass(1) rake(0,0,1) pass(1) rake(0,0,1) "
            + "pass(1) rake(0,0,1) pass(1) rake(0,0,1) pass(1) rake(0,0,1) pass(1) rake(0,0,1)=8 tell(0,{2},-1)=8 tell(0,{2},1)=8 "
            + "tell(0,{12},-1)=16 tell(0,{12},0)=8 tell(0,{123},-1)=17 pass(1) rake(0,0,2) pass(1) rake(0,0,2) pass(1) rake(0,0,2) "
            + "pass(1) rake(0,0,2) pass(1) rake(0,0,2) pass(1) rake(0,0,2) tell(0,{123},-1)=23 pass(1) rake(0,0,2)=8 "
            + "tell(0,{123},-1)=24 tell(0,{123},0)=8 tell(0,{123},1)=8 tell(0,{123},2)=8 tell(0,{13},-1)=16 tell(0,{13},1)=0");
        RUNS.onLaid(NUMBERS + "c0;k0;", eight + "tell(0,{1},-1)=8 tell(0,{1},0)=8 tell(0,{1},1)=BAD");
    }

    private static void tellFirstOfSeveral() {
        RUNS.sentence("of several the first (by most from RICK 0, then from 1)");
        String text = NUMBERS + "c0;" + RICKS;
        RUNS.onLaid(text, "pass(1) rake(0,0,0) pass(1) rake(0,0,1) pass(1) rake(0,0,2) tell(0,{0},0)=1 tell(0,{0},1)=0 "
            + "tell(0,{0},2)=0 cut(0,0) undo() heap(0,2) tell(0,{0},0)=0 tell(0,{0},1)=1 tell(0,{0},2)=0");
        RUNS.onLaid(text, "pass(1) rake(0,0,0) rake(1,1,0) pass(1) rake(0,0,1) rake(1,1,1) pass(1) rake(0,0,2) rake(1,1,2) "
            + "tell(0,{01},-1)=2 tell(0,{01},0)=2 tell(0,{01},1)=0 tell(0,{01},2)=0");
        RUNS.onLaid(text, "pass(1) rake(0,0,1) rake(1,1,1) pass(1) rake(0,0,2) rake(1,1,2) tell(0,{01},-1)=2 tell(0,{01},0)=0 "
            + "tell(0,{01},1)=2 tell(0,{01},2)=0");
        RUNS.onLaid(text, "pass(1) rake(0,0,0) rake(1,1,1) pass(1) rake(1,1,2) tell(0,{01},-1)=2 tell(0,{01},0)=1 "
            + "tell(0,{01},1)=1 tell(0,{01},2)=0");
        RUNS.onLaid(text, "pass(1) rake(0,0,0) rake(1,1,1) pass(1) rake(0,0,1) pass(1) rake(1,1,2) tell(0,{01},-1)=2 "
            + "tell(0,{01},0)=1 tell(0,{01},1)=0 tell(0,{01},2)=1");
        RUNS.onLaid(text, "pass(1) rake(0,0,1) pass(1) rake(0,0,2) rake(1,1,2) tell(0,{01},-1)=2 tell(0,{01},1)=1 "
            + "tell(0,{01},2)=1");
    }

    private static void tellInOrder() {
        RUNS.sentence("RICK 0's first (all that are to be from it), then 1's, 2's");
        String text = NUMBERS + "c3;" + RICKS;
        RUNS.onLaid(text, "pass(1) rake(3,3,0) rake(1,1,1) tell(0,{13},-1)=NONE tell(0,{3},-1)=1 tell(0,{1},-1)=1 tell(0,{1},1)=1 "
            + "tell(0,{1},0)=0");
        RUNS.onLaid(text, "pass(1) rake(1,1,0) rake(3,3,1) tell(0,{13},-1)=2 tell(0,{13},0)=1 tell(0,{13},1)=1 tell(0,{13},2)=0");
        RUNS.onLaid(text, "pass(1) rake(3,3,1) rake(1,1,2) tell(0,{13},-1)=NONE tell(0,{13},1)=NONE");
        RUNS.onLaid(text, "pass(1) rake(1,1,1) rake(3,3,2) tell(0,{13},-1)=2 tell(0,{13},0)=0 tell(0,{13},1)=1 tell(0,{13},2)=1");
        RUNS.onLaid(text, "pass(1) rake(0,0,0) rake(2,2,1) rake(4,4,2) tell(0,{024},-1)=3 tell(0,{24},-1)=2 tell(0,{24},0)=0");
    }

    private static void tellByKind() {
        String layers = "pass(1) rake(1,4,0) pass(1) rake(0,1,0) ";
        RUNS.sentence("told by TELL: a PLAIN one all");
        RUNS.onLaid(NUMBERS + "c0;" + RICKS, layers + "tell(0,{01},-1)=1 tell(0,{2},-1)=2 tell(0,{01234},-1)=2");
        RUNS.sentence("told by TELL: a DEAF one those that are even");
        RUNS.onLaid(NUMBERS + "c1;" + RICKS, layers + "tell(0,{0},-1)=1 tell(0,{24},-1)=2 tell(0,{1},-1)=NONE tell(0,{01},-1)=NONE");
        RUNS.sentence("told by TELL: a SLOW one the least one of them alone");
        RUNS.onLaid(NUMBERS + "c2;" + RICKS, layers + "tell(0,{0},-1)=1 tell(0,{1},-1)=2 tell(0,{01},-1)=2 tell(0,{2},-1)=NONE");
        RUNS.sentence("told by TELL: one FULL OF IT those that are more than the greatest that it was told");
        RUNS.onLaid(NUMBERS + "c3;" + RICKS, layers + "tell(0,{01},-1)=1 tell(0,{2},-1)=2 tell(0,{01234},-1)=2 pass(1) "
            + "rake(2,2,0) tell(0,{2},-1)=1 tell(0,{0},-1)=NONE tell(0,{34},-1)=3 tell(0,{234},-1)=3");
    }

    private static void tellToldAlready() {
        RUNS.sentence("told all of the set, those that it was told already, too");
        RUNS.onLaid(NUMBERS + "c0;c0;" + RICKS, "pass(1) rake(0,0,0) pass(1) rake(1,2,0) cut(0,0)={12} tell(0,{1},-1)=0 "
            + "tell(0,{1},0)=0 tell(0,{12},-1)=0 tell(0,{12},2)=0 tell(0,{0},-1)=1 tell(0,{01},-1)=1 tell(0,{012},0)=1 "
            + "tell(0,{3},-1)=NONE tell(0,{13},-1)=NONE tell(1,{1},-1)=NONE tell(1,{0},-1)=1");
        RUNS.onLaid(NUMBERS + "c3;" + RICKS, "pass(1) rake(1,1,0) pass(1) rake(0,2,0) pass(1) rake(1,1,0) cut(0,0)={1} "
            + "tell(0,{1},-1)=0 tell(0,{2},-1)=1 tell(0,{12},-1)=1 tell(0,{0},-1)=NONE");
    }

    private static void tellNone() {
        RUNS.sentence("tell: none");
        RUNS.onLaid(NUMBERS + "c0;" + RICKS, "tell(0,1,-1)=NONE tell(0,1,0)=NONE tell(0,1,1)=NONE tell(0,1,2)=NONE "
            + "tell(0,1023,-1)=NONE pass(1) tell(0,1,-1)=NONE rake(0,4,0) tell(0,{01234},-1)=1 tell(0,{012345},-1)=NONE "
            + "tell(0,{5},0)=NONE cut(0,0) tell(0,{01234},-1)=0");
        RUNS.onLaid("m012345678;m9;c0;k0;", "pass(9) rake(0,1,0) tell(0,1023,-1)=1 tell(0,1023,0)=1");
    }

    private static void tellBad() {
        RUNS.sentence("a set (1 to 1023); BAD (a set of 0, too)");
        RUNS.onLaid("m0;m9;c0;k0;k0;", "pass(1) rake(0,1,1) tell(0,-1,-1)=BAD tell(0,0,-1)=BAD tell(0,1,-1)=1 tell(0,1023,-1)=NONE "
            + "tell(0,1024,-1)=BAD tell(0,1025,-1)=BAD tell(0,MIN,-1)=BAD tell(0,MAX,-1)=BAD tell(0,0,0)=BAD tell(0,1024,1)=BAD");
        RUNS.sentence("how many (k = -1), from a RICK; BAD, ahead of NONE");
        RUNS.onLaid("m0;c0;c0;k0;k0;", "tell(0,1,-2)=BAD tell(0,1,2)=BAD tell(0,1,MIN)=BAD tell(0,1,MAX)=BAD tell(-1,1,0)=BAD "
            + "tell(2,1,0)=BAD tell(MIN,1,0)=BAD tell(MAX,1,0)=BAD tell(1,1,0)=NONE pass(1) rake(0,0,1) tell(1,1,-2)=BAD "
            + "tell(1,1,-1)=1 tell(1,1,0)=0 tell(1,1,1)=1 tell(1,1,2)=BAD tell(2,1,1)=BAD");
    }

    private static void rakesAll() {
        RUNS.sentence("MOWERS a to b whose SWATHES have all of it together");
        RUNS.onLaid("m0;m1;m2;m3;m4;c0;k0;", "pass(1) rakes({0})=0 rakes({4})=44 rakes({01})=1 rakes({34})=34 rakes({02})=2 "
            + "rakes({04})=4 rakes({01234})=4 rakes({13})=13 rakes({2})=22");
        RUNS.onLaid("m5;c0;k0;", "pass(1) rakes({5})=0 rakes({4})=NONE rakes({45})=NONE");
    }

    private static void rakesFewestOtherwise() {
        RUNS.sentence("of them those that have fewest WORDS otherwise");
        RUNS.onLaid("m12;m13;m1;c0;k0;", "pass(1) rakes({1})=0 pass(1) rakes({1})=22 rakes({12})=0 rakes({13})=11 rakes({123})=1");
        RUNS.onLaid("m123;m12;m1;c0;k0;", "pass(3) rakes({1})=22 rakes({2})=11 rakes({3})=0 rakes({12})=11 rake(2,2,0) "
            + "rakes({1})=11");
        // WORDS that two of the SWATHES have are one WORD together
        RUNS.onLaid("m12;m13;m124;c0;k0;", "pass(3) rakes({23})=1 rakes({34})=2 rakes({24})=22");
        RUNS.onLaid("m034;m5;m6;m5;c0;k0;", "pass(3) rakes({56})=12 rakes({6})=22 rakes({5})=11");
        RUNS.onLaid("m00;m15;m26;m26;m26;c0;k0;", "pass(2) rakes({01})=1 rakes({25})=12");
    }

    private static void rakesFirstOfSeveral() {
        RUNS.sentence("rakes: of several the first (by a, then b): 10 a and b");
        RUNS.onLaid("m1;m1;m1;c0;k0;", "pass(1) rakes({1})=0 rake(0,0,0) rakes({1})=1 pass(1) rake(1,1,0) rakes({1})=0");
        RUNS.onLaid("m2;m1;m2;m1;c0;k0;", "pass(1) rakes({12})=1 rakes({1})=11 rakes({2})=0 rake(0,0,0) rakes({12})=2 rakes({2})=22 "
            + "rakes({1})=1");
        RUNS.onLaid("m3;m1;m2;m1;m2;c0;k0;", "pass(1) rakes({12})=12 rake(1,1,0) rakes({12})=13 rakes({1})=33 rakes({2})=12");
    }

    private static void rakesNot() {
        RUNS.sentence("a set (1 to 1023), rakes: NONE; BAD (a set of 0, too)");
        RUNS.onLaid("m012345678;m9;c0;k0;", "rakes(1)=NONE rakes(-1)=BAD rakes(0)=BAD rakes(1024)=BAD rakes(1025)=BAD rakes(MIN)=BAD "
            + "rakes(MAX)=BAD pass(8) rakes(1023)=NONE pass(1) rakes(1023)=1 rakes(511)=0 rakes(512)=11 rakes(1)=0 rakes(0)=BAD "
            + "rakes(1024)=BAD rake(1,1,0) rakes(1023)=NONE rakes(512)=NONE rakes(511)=0");
    }

    private static void mostOfWords() {
        RUNS.sentence("the RICK whose top LAYER, CUT for it now, would tell it most WORDS that it was not told");
        RUNS.onLaid(NUMBERS + "c0;c1;c2;c3;" + RICKS, "pass(1) rake(0,0,0) rake(1,2,1) rake(3,4,2) pass(1) rake(2,4,0) most(0,0)=0 "
            + "most(0,1)=3 most(1,0)=0 most(1,1)=2 most(2,0)=0 most(2,1)=1 most(3,0)=0 most(3,1)=3 cut(0,0)={234} most(0,0)=0 "
            + "most(0,1)=1 cut(0,0)={0} most(0,0)=1 most(0,1)=1 most(1,0)=1 most(1,1)=1 most(3,0)=1 most(3,1)=2 cut(1,3)={12} "
            + "most(3,0)=2 most(3,1)=2 rick(2,1)=1");
        RUNS.onLaid("m012345678;m9;c0;k0;", "pass(9) rake(0,1,0) most(0,0)=0 most(0,1)=10");
    }

    private static void mostOfSeveral() {
        RUNS.sentence("most: of several the lowest: which; how many");
        RUNS.onLaid(NUMBERS + "c0;" + RICKS, "pass(1) rake(0,0,2) most(0,0)=2 most(0,1)=1 rake(1,1,1) most(0,0)=1 most(0,1)=1 "
            + "rake(2,2,0) most(0,0)=0 most(0,1)=1 rake(3,4,2) most(0,0)=2 most(0,1)=2 cut(0,0) most(0,0)=2");
        RUNS.sentence("most: 0 WORDS are most, where no RICK tells more");
        RUNS.onLaid(NUMBERS + "c0;" + RICKS, "pass(1) rake(0,0,1) cut(1,0) pass(1) rake(0,0,2) most(0,0)=2 most(0,1)=0 pass(1) "
            + "rake(0,0,1) most(0,0)=1 most(0,1)=0 pass(1) rake(0,0,0) most(0,0)=0 most(0,1)=0 rake(1,1,2) most(0,0)=2 "
            + "most(0,1)=1");
        RUNS.onLaid("m1;c1;k0;k0;", "pass(1) rake(0,0,1) most(0,0)=1 most(0,1)=0");
    }

    private static void mostNone() {
        RUNS.sentence("most: none (all are empty)");
        RUNS.onLaid("m1;c0;k0;k0;", "most(0,0)=NONE most(0,1)=NONE pass(1) most(0,0)=NONE rake(0,0,1) most(0,0)=1 cut(1,0) "
            + "most(0,0)=NONE most(0,1)=NONE");
        RUNS.sentence("most: BAD, ahead of NONE");
        RUNS.onLaid("m1;c0;c0;k0;", "most(-1,0)=BAD most(2,0)=BAD most(0,-1)=BAD most(0,2)=BAD most(1,1)=NONE most(MIN,0)=BAD "
            + "most(MAX,0)=BAD most(0,MIN)=BAD most(0,MAX)=BAD pass(1) rake(0,0,0) most(1,1)=1 most(2,1)=BAD most(1,2)=BAD");
    }

    private static void firstSaid() {
        RUNS.sentence("behind how many HOURS (1 to 60) a MOWER has said it from now on first");
        // a row has 9 WORDS at most, so a WORD that is said at all is said by the 9th HOUR
        RUNS.onLaid("m012345678;c0;k0;", "first(0,0)=1 first(1,0)=2 first(8,0)=9 first(9,0)=NONE first(9,1)=NONE pass(1) first(0,0)=9 "
            + "first(1,0)=1 pass(7) first(8,0)=1 first(7,0)=9 pass(1) first(8,0)=9 first(0,0)=1");
        RUNS.onLaid("m7;c0;k0;", "first(7,0)=1 pass(24) first(7,0)=1 first(7,1)=0");
        RUNS.sentence("first: who, of several the lowest");
        RUNS.onLaid("m12;m21;m11;m2;m9;c0;k0;", "first(1,0)=1 first(1,1)=0 first(2,0)=1 first(2,1)=1 first(9,1)=4 pass(1) first(1,0)=1 "
            + "first(1,1)=1 first(2,0)=1 first(2,1)=0");
        RUNS.onLaid("m003;m033;m3;c0;k0;", "first(3,0)=1 first(3,1)=2 first(0,1)=0 pass(1) first(3,0)=1 first(3,1)=1 pass(1) "
            + "first(3,1)=0");
    }

    private static void firstNot() {
        RUNS.sentence("first: NONE; BAD");
        RUNS.onLaid("m0;m9;c0;k0;", "first(-1,0)=BAD first(0,0)=1 first(9,0)=1 first(10,0)=BAD first(5,0)=NONE first(5,1)=NONE "
            + "first(0,-1)=BAD first(0,2)=BAD first(5,-1)=BAD first(5,2)=BAD first(MIN,0)=BAD first(MAX,0)=BAD first(0,MIN)=BAD "
            + "first(0,MAX)=BAD");
    }

    private static void needleInLayers() {
        RUNS.sentence("each as likely as its place from the bottom (1 for the lowest, 2, ..)");
        RUNS.onLaid(NUMBERS + "c0;" + RICKS, "pass(1) rake(0,0,0) rake(1,1,0) rake(2,2,1) pass(1) rake(0,0,0) pass(1) rake(0,0,1) "
            + "needle(0,0,0)=2 needle(0,0,1)=3 needle(0,1,0)=1 needle(0,1,1)=3 needle(0,2,0)=0 needle(0,2,1)=1 needle(1,0,0)=1 "
            + "needle(1,0,1)=1 needle(1,1,0)=0 needle(1,1,1)=1 cut(1,0) needle(0,0,0)=1 needle(0,0,1)=1");
        RUNS.onLaid(NUMBERS + "c0;" + RICKS, "pass(1) rake(0,0,0) rake(1,1,0) rake(2,2,0) rake(3,3,0) pass(1) rake(1,1,0) "
            + "rake(2,2,0) rake(3,3,0) rake(0,0,0)=8 pass(1) rake(0,0,1) needle(0,0,0)=9 needle(0,0,1)=10 needle(0,1,0)=1 "
            + "needle(0,1,1)=10 cut(0,0) needle(0,0,0)=1 needle(0,0,1)=2 needle(0,1,0)=1");
        RUNS.sentence("a WORD that lies in a SWATHE lies in no LAYER");
        RUNS.onLaid("m1;m1;c0;k0;k0;", "pass(1) needle(1,0,0)=NONE rake(0,0,1) needle(1,1,0)=1 needle(1,1,1)=1 needle(1,0,0)=0");
    }

    private static void needleInLowestTerms() {
        RUNS.sentence("how likely it is in a RICK, in lowest terms");
        RUNS.onLaid("m1;c0;k0;k0;", "pass(1) rake(0,0,0) pass(1) rake(0,0,0) pass(1) rake(0,0,0) pass(1) rake(0,0,1) pass(1) "
            + "rake(0,0,1) needle(1,0,0)=2 needle(1,0,1)=3 needle(1,1,0)=1 needle(1,1,1)=3 pass(1) rake(0,0,1) needle(1,0,0)=1 "
            + "needle(1,0,1)=2 heap(0,1) needle(1,0,0)=0 needle(1,0,1)=1 needle(1,1,0)=1 needle(1,1,1)=1");
    }

    private static void needleNone() {
        RUNS.sentence("needle: none (it lies in no LAYER); BAD ahead of NONE");
        RUNS.onLaid("m0;m9;c0;k0;k0;", "needle(0,0,0)=NONE needle(0,1,1)=NONE needle(-1,0,0)=BAD needle(10,0,0)=BAD needle(0,-1,0)=BAD "
            + "needle(0,2,0)=BAD needle(0,0,-1)=BAD needle(0,0,2)=BAD needle(MIN,0,0)=BAD needle(MAX,0,0)=BAD needle(0,MIN,0)=BAD "
            + "needle(0,MAX,0)=BAD needle(0,0,MIN)=BAD needle(0,0,MAX)=BAD pass(1) rake(0,1,1) needle(0,1,0)=1 needle(9,1,1)=1 "
            + "needle(5,1,0)=NONE needle(10,1,0)=BAD needle(0,2,0)=BAD needle(0,1,2)=BAD cut(1,0) needle(0,1,0)=NONE");
    }
}
