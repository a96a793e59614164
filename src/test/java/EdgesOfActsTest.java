/** The edges that section 2 of "Terms" and promises 6 to 15 name, sentence by sentence. */
public final class EdgesOfActsTest {
    private static final Due DUE = new Due();
    private static final Runs RUNS = new Runs(DUE);

    public static void main(String[] args) {
        atFirst();
        hotterByWet();
        burnsAtForty();
        burnsAsAWhole();
        saysItsWord();
        wetAtMost();
        hoursThatGoBy();
        toldOfEach();
        layersThatAreNot();
        wordsOneLayer();
        layerAsWet();
        swathesThen();
        nothingLies();
        layersAtMost();
        cutPlainAndDeaf();
        cutSlow();
        cutFullOfIt();
        cutOnTop();
        turned();
        heapAsTheyAre();
        heapAtMost();
        undoneAtOneTime();
        undoneOfEach();
        undoneAtMost();
        undoneNot();
        DUE.end("EdgesOfActsTest");
    }

    private static void atFirst() {
        RUNS.sentence("At first HOUR 0 is next, SWATHES and RICKS are empty, COWS are told nothing");
        RUNS.onLaid("m12;c0;k0;e30;", "count(3)=0 mower(0,0)=1 mower(0,1)=0 mower(0,2)=0 rick(0,1)=0 rick(0,2)=0 "
            + "rick(0,3)=0 cow(0,1)=0 pass(1)=1 mower(0,0)=2 mower(0,1)={1} mower(0,2)=3 pass(1)=2 mower(0,0)=1 "
            + "mower(0,1)={12} mower(0,2)=3");
    }

    private static void hotterByWet() {
        RUNS.sentence("hotter by how WET it is less what the RICK is THATCHED by, if that is more than 0");
        RUNS.onLaid("m1;m2;m3;c0;k5;k5;k5;e1;", "pass(4) rake(0,0,0) pass(1) rake(1,1,1) pass(1) rake(2,2,2) "
            + "layer(0,0,1)=4 layer(1,0,1)=5 layer(2,0,1)=6 pass(1) layer(0,0,2)=0 layer(1,0,2)=0 layer(2,0,2)=1 "
            + "pass(24) layer(0,0,2)=0 layer(1,0,2)=0 layer(2,0,2)=25");
        RUNS.onLaid("m1;c0;k9;e1;", "pass(9) rake(0,0,0) pass(24) rick(0,2)=0");
        RUNS.onLaid("m1;c0;k9;e1;", "pass(10) rake(0,0,0) pass(24) rick(0,2)=24");
        RUNS.onLaid("m1;c0;k0;", "pass(1) rake(0,0,0) pass(24) rick(0,2)=0");
        RUNS.onLaid("m1;c0;k0;e1;", "pass(1) rake(0,0,0) pass(24) rick(0,2)=24");
        RUNS.sentence("each LAYER of a RICK is hotter");
        RUNS.onLaid("m1;c0;k1;e1;", "pass(2) rake(0,0,0) pass(3) rake(0,0,0) pass(4) rake(0,0,0) pass(1) "
            + "layer(0,0,2)=8 layer(0,1,2)=10 layer(0,2,2)=3 rick(0,2)=10");
        RUNS.sentence("how hot the hottest is (empty: 0)");
        RUNS.onLaid("m1;c0;k0;e1;", "rick(0,2)=0 pass(9) rake(0,0,0) rick(0,2)=0 pass(3) rick(0,2)=27 rake(0,0,0) "
            + "rick(0,2)=27 cut(0,0) rick(0,2)=27 cut(0,0) rick(0,1)=0 rick(0,2)=0");
    }

    private static void burnsAtForty() {
        RUNS.sentence("as hot as 40 or more BURNS: it is empty then");
        RUNS.onLaid("m1;c0;k0;e1;", "pass(24) pass(15) rake(0,0,0) layer(0,0,1)=39 pass(1) rick(0,2)=39 rick(0,1)=1 "
            + "rick(0,3)=0 count(4)=1 count(5)=0");
        RUNS.onLaid("m1;c0;k0;e1;", "pass(24) pass(16) rake(0,0,0) layer(0,0,1)=40 pass(1) rick(0,2)=0 rick(0,1)=0 "
            + "rick(0,3)=1 count(4)=0 count(5)=1 layer(0,0,0)=BAD");
        RUNS.onLaid("m1;c0;k0;e1;", "pass(24) pass(17) rake(0,0,0) layer(0,0,1)=41 pass(1) rick(0,1)=0 rick(0,3)=1");
        RUNS.onLaid("m1;c0;k0;e2;", "pass(4) rake(0,0,0) layer(0,0,1)=8 pass(4) rick(0,2)=32 rick(0,3)=0 pass(1) "
            + "rick(0,2)=0 rick(0,3)=1 rick(0,1)=0");
        RUNS.onLaid("m1;c0;k0;e1;", "pass(1) rake(0,0,0) pass(24) pass(15) rick(0,2)=39 pass(1) rick(0,3)=1");
        RUNS.onLaid("m1;c0;k9;e1;", "pass(24) pass(24) rake(0,0,0) layer(0,0,1)=48 pass(1) rick(0,2)=39 rick(0,3)=0");
        RUNS.onLaid("m1;c0;k9;e1;", "pass(24) pass(24) pass(1) rake(0,0,0) layer(0,0,1)=49 pass(1) rick(0,3)=1");
    }

    private static void burnsAsAWhole() {
        String text = "m1;m2;m3;c0;k0;k9;e2;";
        RUNS.sentence("a RICK of which a LAYER is as hot as 40");
        RUNS.onLaid(text, "pass(20) turn(1)=40 turn(2)=40 rake(0,0,0)=1 rake(1,1,0)=2 rake(2,2,1)=1 pass(1) rick(0,1)=0 "
            + "rick(0,3)=1 rick(1,1)=1 rick(1,3)=0 count(5)=1");
        RUNS.onLaid(text, "pass(20) turn(1)=40 turn(2)=40 rake(1,1,0)=1 rake(0,0,0)=2 rake(2,2,1)=1 pass(1) rick(0,1)=0 "
            + "rick(0,3)=1 rick(1,1)=1 rick(1,3)=0 count(5)=1");
        RUNS.sentence("how often it BURNT: once, however many LAYERS are as hot");
        RUNS.onLaid(text, "pass(20) rake(0,0,0) rake(1,1,0) rake(2,2,0)=3 pass(1) rick(0,1)=0 rick(0,3)=1 count(5)=1");
        RUNS.sentence("how often it BURNT: again");
        RUNS.onLaid("m1;c0;k0;k0;e3;", "pass(14) rake(0,0,0) pass(13) rick(0,3)=1 rake(0,0,1) pass(1) rick(1,3)=0 pass(1) "
            + "rick(1,3)=1 rick(0,3)=1 count(5)=2 pass(12) rake(0,0,0) pass(1) rick(0,3)=2 count(5)=3");
        RUNS.sentence("each MOWER says its next WORD in the HOUR in which a RICK BURNS, too");
        RUNS.onLaid("m12;c0;k0;e3;", "pass(14) rake(0,0,0) pass(1) rick(0,3)=1 mower(0,1)={1} mower(0,2)=3");
    }

    private static void saysItsWord() {
        RUNS.sentence("it lies in its SWATHE (once, however often it is said)");
        RUNS.onLaid("m3;m44;m565;c0;k0;", "pass(1) mower(0,1)={3} pass(1) mower(0,1)={3} mower(1,1)={4} pass(1) "
            + "mower(2,1)={56} pass(24) mower(0,1)={3} mower(1,1)={4} mower(2,1)={56}");
        RUNS.onLaid("m0;m9;c0;k0;", "pass(1) mower(0,1)=1 mower(1,1)=512");
        RUNS.sentence("which is WET by the WEATHER of the HOUR more");
        RUNS.onLaid("m1;m2;c0;k0;e0123;", "pass(1) mower(0,2)=0 pass(1) mower(0,2)=1 pass(1) mower(0,2)=3 pass(1) "
            + "mower(0,2)=6 mower(1,2)=6 pass(1) mower(0,2)=6 pass(1) mower(0,2)=7");
    }

    private static void wetAtMost() {
        RUNS.sentence("a SWATHE is WET by 99 at most");
        RUNS.onLaid("m1;c0;k0;e1;", "4*pass(24) pass(2)=98 mower(0,2)=98 pass(1) mower(0,2)=99 pass(1) mower(0,2)=99");
        RUNS.onLaid("m1;c0;k0;e2;", "2*pass(24) pass(1)=49 mower(0,2)=98 pass(1) mower(0,2)=99 pass(1) mower(0,2)=99");
        RUNS.onLaid("m1;c0;k0;e3;", "pass(24) pass(8)=32 mower(0,2)=96 pass(1) mower(0,2)=99 pass(1) mower(0,2)=99");
        RUNS.onLaid("m1;c0;k0;e3;", "pass(24) pass(24) turn(0)=99 mower(0,2)=0 pass(1) mower(0,2)=3");
    }

    private static void hoursThatGoBy() {
        RUNS.sentence("n HOURS (1 to 24) go by");
        RUNS.onNew("pass(0)=BAD pass(1)=1 pass(2)=3");
        RUNS.onNew("pass(25)=BAD pass(24)=24 pass(23)=47");
        RUNS.onNew("pass(-1)=BAD pass(MIN)=BAD pass(MAX)=BAD count(3)=0 count(8)=0");
        RUNS.sentence("999 can go by; NO: beyond 999");
        RUNS.onNew("41*pass(24) count(3)=984 pass(14)=998 pass(2)=NO count(3)=998 pass(1)=999 pass(1)=NO count(3)=999");
        RUNS.onNew("41*pass(24) pass(16)=NO pass(15)=999 pass(24)=NO pass(1)=NO");
        RUNS.onNew("41*pass(24) pass(17)=NO pass(14)=998 pass(1)=999");
        RUNS.onNew("40*pass(24) pass(15)=975 pass(24)=999 pass(1)=NO");
        RUNS.onNew("40*pass(24) pass(16)=976 pass(24)=NO pass(23)=999 undo()=7 count(3)=976 pass(23)=999");
        RUNS.sentence("pass: BAD ahead of NO");
        RUNS.onNew("41*pass(24) pass(15)=999 pass(0)=BAD pass(25)=BAD pass(MAX)=BAD pass(1)=NO");
        RUNS.sentence("what comes is told beyond HOUR 999, too");
        RUNS.onLaid("m12;c0;k0;e1;", "41*pass(24) pass(15)=999 rake(0,0,0) mower(0,0)=2 behind(1,0,0)={2} behind(2,0,0)={12} "
            + "behind(40,0,1)=40 burns(0)=1 first(1,0)=2 rain(0,8,0,8,0)=1 february(0,1,2)=1");
    }

    private static void toldOfEach() {
        RUNS.sentence("Of a MOWER: what it says next (0), what lies in its SWATHE (1), how WET that is (2). BAD");
        RUNS.onLaid("m12;m3;c0;k0;e2;", "pass(1) mower(0,-1)=BAD mower(0,0)=2 mower(0,1)={1} mower(0,2)=2 mower(0,3)=BAD mower(-1,0)=BAD "
            + "mower(1,0)=3 mower(2,0)=BAD mower(MIN,1)=BAD mower(MAX,1)=BAD mower(0,MIN)=BAD mower(0,MAX)=BAD");
        RUNS.sentence("Of a COW: KIND (0), what it was told (1). BAD");
        RUNS.onLaid("m1;c2;c3;k0;", "pass(1) rake(0,0,0) cut(0,1) cow(0,-1)=BAD cow(0,0)=2 cow(0,1)=0 cow(0,2)=BAD cow(-1,0)=BAD "
            + "cow(1,0)=3 cow(1,1)={1} cow(2,0)=BAD cow(MIN,1)=BAD cow(MAX,1)=BAD cow(0,MIN)=BAD cow(0,MAX)=BAD");
        RUNS.sentence("Of a RICK: T (0), how many LAYERS (1), how hot the hottest is (2), how often it BURNT (3). BAD");
        RUNS.onLaid("m1;c0;k2;k0;e3;", "pass(14) rake(0,0,1) pass(1) rake(0,0,0) pass(1) rick(0,-1)=BAD rick(0,0)=2 rick(0,1)=1 "
            + "rick(0,2)=1 rick(0,3)=0 rick(0,4)=BAD rick(-1,0)=BAD rick(1,0)=0 rick(1,1)=0 rick(1,2)=0 rick(1,3)=1 rick(2,0)=BAD "
            + "rick(MIN,1)=BAD rick(MAX,1)=BAD rick(0,MIN)=BAD rick(0,MAX)=BAD");
        RUNS.sentence("Of the i-th LAYER: WORDS (0), how WET (1), how hot (2). BAD");
        RUNS.onLaid("m1;c0;k2;e3;", "pass(1) rake(0,0,0) pass(4) layer(0,0,-1)=BAD layer(0,0,0)={1} layer(0,0,1)=3 layer(0,0,2)=4 "
            + "layer(0,0,3)=BAD layer(-1,0,0)=BAD layer(1,0,0)=BAD layer(MIN,0,0)=BAD layer(MAX,0,0)=BAD layer(0,0,MIN)=BAD "
            + "layer(0,0,MAX)=BAD");
    }

    private static void layersThatAreNot() {
        RUNS.sentence("the i-th LAYER of a RICK (0 lowest). BAD: there are not so many, too");
        RUNS.onLaid("m12;c0;k0;k0;", "layer(0,0,0)=BAD pass(1) rake(0,0,0) layer(0,-1,0)=BAD layer(0,0,0)={1} layer(0,1,0)=BAD "
            + "pass(1) rake(0,0,0) layer(0,0,0)={1} layer(0,1,0)={2} layer(0,2,0)=BAD layer(1,0,0)=BAD layer(0,MIN,0)=BAD "
            + "layer(0,MAX,0)=BAD cut(0,0) layer(0,1,0)=BAD layer(0,0,0)={1} heap(0,1) layer(0,0,0)=BAD layer(1,0,0)={1}");
        RUNS.onLaid("m1;c0;k0;k0;", "8*pass(1) rake(0,0,0) pass(1) rake(0,0,0) pass(1) rake(0,0,0) pass(1) rake(0,0,0) pass(1) "
            + "rake(0,0,0) pass(1) rake(0,0,0) pass(1) rake(0,0,0) pass(1) rake(0,0,0)=8 layer(0,7,0)={1} layer(0,8,0)=BAD "
            + "layer(0,8,1)=BAD layer(0,8,2)=BAD layer(0,7,2)=0 layer(1,0,0)=BAD");
    }

    private static void wordsOneLayer() {
        String text = "m1;m2;m2;m3;m4;c0;k0;";
        RUNS.sentence("SWATHES of MOWERS a to b: all their WORDS are one LAYER on top of it");
        RUNS.onLaid(text, "pass(1) rake(0,4,0)=1 layer(0,0,0)={1234}");
        RUNS.onLaid(text, "pass(1) rake(1,3,0)=1 layer(0,0,0)={23} mower(0,1)={1} mower(4,1)={4} rake(0,0,0)=2 "
            + "layer(0,1,0)={1} rake(4,4,0)=3 layer(0,2,0)={4} layer(0,0,0)={23}");
        RUNS.onLaid(text, "pass(1) rake(1,2,0)=1 layer(0,0,0)={2} mower(3,1)={3}");
        RUNS.sentence("rake: BAD (b below a, too)");
        RUNS.onLaid(text, "pass(1) rake(1,0,0)=BAD rake(4,3,0)=BAD rake(4,0,0)=BAD count(8)=1 rake(1,1,0)=1 rake(4,4,0)=2");
        RUNS.onLaid(text, "pass(1) rake(-1,0,0)=BAD rake(0,5,0)=BAD rake(5,5,0)=BAD rake(0,0,1)=BAD rake(0,0,-1)=BAD "
            + "rake(MIN,0,0)=BAD rake(0,MAX,0)=BAD rake(0,0,MAX)=BAD count(4)=0 rake(0,4,0)=1");
    }

    private static void layerAsWet() {
        RUNS.sentence("as WET as all of them are together (99 at most)");
        RUNS.onLaid("m1;m2;m3;c0;k9;e1;", "2*pass(24) pass(1)=49 rake(0,1,0) layer(0,0,1)=98");
        RUNS.onLaid("m1;m2;m3;c0;k9;e1;", "pass(24) pass(9)=33 rake(0,2,0) layer(0,0,1)=99");
        RUNS.onLaid("m1;m2;m3;c0;k9;e1;", "2*pass(24) pass(2)=50 rake(0,1,0) layer(0,0,1)=99");
        RUNS.onLaid("m1;m2;m3;c0;k9;e1;", "pass(24) pass(10)=34 rake(0,2,0) layer(0,0,1)=99");
        RUNS.onLaid("m1;m2;m3;c0;k9;e3;", "2*pass(24) rake(0,0,0) layer(0,0,1)=99");
        RUNS.onLaid("m1;m2;m3;m4;m5;c0;k9;e3;", "2*pass(24) rake(0,4,0) layer(0,0,1)=99");
        RUNS.onLaid("m1;m2;c0;k9;e3;", "pass(2) turn(0) rake(0,1,0) layer(0,0,1)=6");
        RUNS.onLaid("m1;m2;c0;k9;e3;", "pass(2) turn(0) rake(0,0,0)=1 layer(0,0,0)={1} layer(0,0,1)=0");
        RUNS.sentence("as hot as 0");
        RUNS.onLaid("m1;m2;c0;k0;e3;", "pass(3) rake(0,0,0) layer(0,0,2)=0 pass(2) layer(0,0,2)=18 rake(1,1,0)=2 "
            + "layer(0,1,2)=0 layer(0,0,2)=18 cut(0,0) cut(0,0) pass(1) rake(0,0,0)=1 layer(0,0,2)=0");
    }

    private static void swathesThen() {
        RUNS.sentence("the SWATHES are empty and dry then");
        RUNS.onLaid("m1;m2;m3;m4;c0;k9;e2;", "pass(3) rake(1,2,0) mower(0,1)={1} mower(0,2)=6 mower(1,1)=0 mower(1,2)=0 "
            + "mower(2,1)=0 mower(2,2)=0 mower(3,1)={4} mower(3,2)=6 turn(1)=NO turn(2)=NO pass(1) mower(1,1)={2} "
            + "mower(1,2)=2 mower(3,2)=8");
    }

    private static void nothingLies() {
        RUNS.sentence("rake: NO: nothing lies in them");
        RUNS.onLaid("m1;m2;m3;c0;k0;", "rake(0,0,0)=NO rake(0,2,0)=NO pass(1) rake(1,1,0)=1 rake(1,1,0)=NO rake(0,1,0)=2 "
            + "rake(0,1,0)=NO rake(0,2,0)=3 rake(0,2,0)=NO rake(2,2,0)=NO count(4)=3 count(8)=4 pass(1) rake(0,0,0)=4");
    }

    private static void layersAtMost() {
        String seven = "7*pass(1) rake(0,0,0) pass(1) rake(0,0,0) pass(1) rake(0,0,0) pass(1) rake(0,0,0) pass(1) rake(0,0,0) "
            + "pass(1) rake(0,0,0) pass(1) rake(0,0,0)=7 ";
        RUNS.sentence("A RICK has 8 LAYERS at most");
        RUNS.onLaid("m1;m2;c0;k0;k0;", seven + "pass(1) rake(0,0,0)=8 rake(1,1,0)=FULL mower(1,1)={2} rick(0,1)=8 "
            + "rake(1,1,1)=1 pass(1) rake(0,1,0)=FULL cut(0,0)={1} rake(0,1,0)=8 layer(0,7,0)={12}");
        RUNS.sentence("rake: BAD, then NO, then FULL");
        RUNS.onLaid("m1;m2;c0;k0;k0;", seven + "pass(1) rake(0,0,0)=8 rake(0,0,0)=NO rake(1,1,0)=FULL rake(1,0,0)=BAD "
            + "rake(0,2,0)=BAD rake(0,0,2)=BAD count(8)=8 count(4)=8");
    }

    private static void cutPlainAndDeaf() {
        RUNS.sentence("a PLAIN one all");
        RUNS.onLaid("m012345678;m9;c0;k0;", "pass(9) rake(0,1,0) pass(1) rake(0,1,0) cut(0,0)={09} cut(0,0)={12345678} "
            + "cow(0,1)={0123456789} count(6)=10");
        RUNS.sentence("a DEAF one those that are even");
        RUNS.onLaid("m012345678;m9;c1;k0;", "pass(9) rake(0,1,0) cut(0,0)={02468} cow(0,1)={02468} rick(0,1)=0");
        RUNS.onLaid("m1;m3;m5;m7;m9;c1;k0;", "pass(1) rake(0,4,0) cut(0,0)=0 cow(0,1)=0 rick(0,1)=0 count(8)=3");
        RUNS.onLaid("m0;m2;m4;m6;m8;c1;k0;", "pass(1) rake(0,4,0) cut(0,0)={02468}");
        RUNS.sentence("cut: WORDS that the COW is told by it that it was not");
        RUNS.onLaid("m12;c0;k0;", "pass(1) rake(0,0,0) pass(1) rake(0,0,0) pass(2) rake(0,0,0) cut(0,0)={12} cut(0,0)=0 "
            + "cow(0,1)={12} rick(0,1)=1 cut(0,0)=0 rick(0,1)=0 cut(0,0)=NO");
    }

    private static void cutSlow() {
        RUNS.sentence("a SLOW one the least one of them alone");
        RUNS.onLaid("m012345678;m9;c2;k0;", "pass(9) rake(1,1,0) rake(0,0,0) cut(0,0)={0} cut(0,0)={9} cow(0,1)={09}");
        RUNS.onLaid("m98;c2;k0;", "pass(2) rake(0,0,0) pass(1) rake(0,0,0) pass(2) rake(0,0,0) cut(0,0)={8} cut(0,0)={9} "
            + "cut(0,0)=0 cow(0,1)={89}");
        RUNS.sentence("a SLOW one the least one alone, told already or not");
        RUNS.onLaid("m98;c2;k0;", "pass(2) rake(0,0,0) pass(2) rake(0,0,0) pass(2) rake(0,0,0) cut(0,0)={8} most(0,0)=0 most(0,1)=0 "
            + "tell(0,{9},-1)=NONE cut(0,0)=0 cut(0,0)=0 cow(0,1)={8}");
    }

    private static void cutFullOfIt() {
        RUNS.sentence("one FULL OF IT those of them that are more than the greatest that it was told already");
        RUNS.onLaid("m3;m4;m5;c3;k0;", "pass(1) rake(1,1,0) pass(1) rake(1,1,0) pass(1) rake(0,2,0) pass(1) rake(1,1,0) "
            + "cut(0,0)={4} cow(0,1)={4} cut(0,0)={5} cow(0,1)={45} cut(0,0)=0 cut(0,0)=0 cow(0,1)={45}");
        RUNS.onLaid("m9;m8;m0;c3;k0;", "pass(1) rake(0,2,0) pass(1) rake(1,1,0) cut(0,0)={8} cut(0,0)={9} cow(0,1)={89}");
        RUNS.onLaid("m0;m1;m9;c3;k0;", "pass(1) rake(0,2,0) pass(1) rake(0,1,0) pass(1) rake(0,0,0) cut(0,0)={0} cut(0,0)={1} "
            + "cut(0,0)={9} cow(0,1)={019}");
        RUNS.sentence("(all of them, if it was told nothing)");
        RUNS.onLaid("m0;m4;m9;c3;k0;", "pass(1) rake(0,2,0) cut(0,0)={049}");
        RUNS.onLaid("m0;m4;c3;c3;k0;", "pass(1) rake(0,1,0) pass(1) rake(0,0,0) cut(0,0)={0} cut(0,1)={04}");
    }

    private static void cutOnTop() {
        RUNS.sentence("The top LAYER of a RICK is CUT. NO: the RICK is empty");
        RUNS.onLaid("m12;c0;c0;k0;k0;", "cut(0,0)=NO pass(1) rake(0,0,0) pass(1) rake(0,0,0)=2 cut(1,0)=NO cut(0,0)={2} "
            + "rick(0,1)=1 layer(0,0,0)={1} cut(0,1)={1} rick(0,1)=0 cut(0,0)=NO cow(0,1)={2} cow(1,1)={1}");
        RUNS.sentence("cut: BAD ahead of NO");
        RUNS.onLaid("m1;c0;k0;", "cut(0,0)=NO cut(-1,0)=BAD cut(1,0)=BAD cut(0,-1)=BAD cut(0,1)=BAD cut(MIN,MAX)=BAD "
            + "pass(1) rake(0,0,0) cut(1,0)=BAD cut(0,1)=BAD cut(0,0)={1}");
    }

    private static void turned() {
        RUNS.sentence("A SWATHE is TURNED: it is dry: how WET it was. NO: it is dry");
        RUNS.onLaid("m1;m2;c0;k0;e01;", "turn(0)=NO pass(1) turn(0)=NO pass(1) turn(0)=1 mower(0,2)=0 mower(0,1)={1} turn(0)=NO "
            + "mower(1,2)=1 pass(2) turn(0)=1 turn(1)=2");
        RUNS.sentence("turn: BAD ahead of NO");
        RUNS.onLaid("m1;m2;c0;k0;e1;", "turn(2)=BAD turn(-1)=BAD turn(1)=NO turn(0)=NO pass(1) turn(2)=BAD turn(-1)=BAD "
            + "turn(MIN)=BAD turn(MAX)=BAD turn(1)=1 turn(0)=1");
    }

    private static void heapAsTheyAre() {
        RUNS.sentence("put on top of another one, LAYER for LAYER as they are: it is empty then");
        RUNS.onLaid("m1;m2;m3;c0;k0;k0;e1;", "pass(1) rake(0,0,0) pass(2) rake(1,1,0) pass(1) rake(2,2,1) heap(0,1)=3 "
            + "rick(0,1)=0 rick(0,2)=0 layer(1,0,0)={3} layer(1,0,1)=4 layer(1,0,2)=0 layer(1,1,0)={1} layer(1,1,1)=1 "
            + "layer(1,1,2)=3 layer(1,2,0)={2} layer(1,2,1)=3 layer(1,2,2)=3 heap(0,1)=NO heap(1,0)=3 layer(0,2,2)=3");
        RUNS.sentence("heap: BAD (alike, too)");
        RUNS.onLaid("m1;c0;k0;k0;", "heap(0,0)=BAD heap(1,1)=BAD heap(0,1)=NO pass(1) rake(0,0,0) heap(0,0)=BAD heap(0,2)=BAD "
            + "heap(2,0)=BAD heap(0,-1)=BAD heap(-1,0)=BAD heap(MAX,MAX)=BAD heap(MIN,0)=BAD rick(0,1)=1 heap(0,1)=1");
        RUNS.onLaid("m1;c0;k0;", "pass(1) rake(0,0,0) heap(0,0)=BAD heap(0,1)=BAD rick(0,1)=1");
        RUNS.sentence("heap: NO: j is empty");
        RUNS.onLaid("m1;c0;k0;k0;", "heap(0,1)=NO pass(1) rake(0,0,0) heap(1,0)=NO heap(0,1)=1 heap(0,1)=NO count(8)=3");
    }

    private static void heapAtMost() {
        String four = "pass(1) rake(0,0,0) rake(1,1,1) pass(1) rake(0,0,0) rake(1,1,1) pass(1) rake(0,0,0) rake(1,1,1) pass(1) "
            + "rake(0,0,0)=4 rake(1,1,1)=4 ";
        String text = "m1;m2;c0;k0;k0;k0;";
        RUNS.sentence("if they are 8 at most together");
        RUNS.onLaid(text, four + "heap(0,1)=8 rick(0,1)=0 rick(1,1)=8 layer(1,3,0)={2} layer(1,4,0)={1} layer(1,7,0)={1}");
        RUNS.onLaid(text, four + "pass(1) rake(0,0,0)=5 heap(0,1)=FULL heap(1,0)=FULL rick(0,1)=5 rick(1,1)=4 cut(0,0) "
            + "heap(0,1)=8");
        RUNS.onLaid(text, four + "pass(1) rake(0,0,2)=1 heap(0,1)=8 heap(1,2)=FULL heap(2,1)=FULL heap(1,0)=8 rick(2,1)=1");
        RUNS.sentence("heap: BAD, then NO, then FULL");
        RUNS.onLaid(text, four + "heap(0,1)=8 heap(0,1)=NO heap(0,0)=BAD heap(1,1)=BAD heap(1,3)=BAD pass(1) rake(0,0,0)=1 "
            + "heap(0,1)=FULL heap(2,1)=NO heap(1,2)=8");
    }

    private static void undoneAtOneTime() {
        RUNS.sentence("UNDONE are HOURS (all that went by at one time are one)");
        RUNS.onLaid("m12;c0;k0;e1;", "pass(24) pass(1) pass(2) count(8)=3 undo()=2 count(3)=25 undo()=1 count(3)=24 mower(0,2)=24 "
            + "mower(0,0)=1 undo()=0 count(3)=0 mower(0,1)=0 mower(0,2)=0 mower(0,0)=1 undo()=NO");
    }

    private static void undoneOfEach() {
        String text = "m12;m3;c0;k0;k9;e3;";
        RUNS.sentence("UNDONE are the latest of all of these: RAKED");
        RUNS.onLaid(text, "pass(1) rake(0,1,0)=1 undo()=1 rick(0,1)=0 mower(0,1)={1} mower(0,2)=3 mower(1,1)={3} mower(1,2)=3");
        RUNS.sentence("UNDONE are the latest of all of these: CUT");
        RUNS.onLaid(text, "pass(1) rake(0,1,0) pass(3) cut(0,0)={13} undo()=3 cow(0,1)=0 layer(0,0,0)={13} layer(0,0,1)=6 "
            + "layer(0,0,2)=18");
        RUNS.sentence("UNDONE are the latest of all of these: TURNED");
        RUNS.onLaid(text, "pass(1) turn(0)=3 undo()=1 mower(0,2)=3 turn(0)=3");
        RUNS.sentence("UNDONE are the latest of all of these: put one on another");
        RUNS.onLaid(text, "pass(1) rake(0,0,0) rake(1,1,1) pass(1) heap(0,1)=2 undo()=4 rick(0,1)=1 rick(1,1)=1 layer(0,0,0)={1} "
            + "layer(0,0,2)=3 layer(1,0,0)={3}");
        RUNS.sentence("UNDONE are the latest of all of these: HOURS in which a RICK BURNT");
        RUNS.onLaid(text, "pass(14) rake(0,0,0) pass(1) rick(0,3)=1 count(5)=1 undo()=2 rick(0,3)=0 count(5)=0 rick(0,1)=1 "
            + "layer(0,0,0)={12} layer(0,0,1)=42 layer(0,0,2)=0");
    }

    private static void undoneAtMost() {
        RUNS.sentence("the last 8 can be");
        RUNS.onNew("7*pass(1) count(8)=7 undo()=6 undo()=5 undo()=4 undo()=3 undo()=2 undo()=1 undo()=0 count(3)=0 undo()=NO");
        RUNS.onNew("8*pass(1) count(8)=8 undo()=7 undo()=6 undo()=5 undo()=4 undo()=3 undo()=2 undo()=1 undo()=0 count(3)=0 "
            + "undo()=NO");
        RUNS.onNew("9*pass(1) count(8)=8 undo()=7 undo()=6 undo()=5 undo()=4 undo()=3 undo()=2 undo()=1 undo()=0 count(3)=1 "
            + "undo()=NO count(3)=1");
        RUNS.onNew("20*pass(1) 5*undo() count(8)=3 count(3)=15 4*pass(2) count(8)=7 2*pass(3) count(8)=8 count(3)=29 undo()=7 "
            + "count(3)=26 undo()=6 count(3)=23 undo()=5 count(3)=21 4*undo() count(8)=1 count(3)=14 undo()=0 count(3)=13 "
            + "undo()=NO");
    }

    private static void undoneNot() {
        RUNS.sentence("how many more can be. NO");
        RUNS.onNew("undo()=NO pass(1) undo()=0 undo()=NO count(3)=0");
        RUNS.sentence("what is none of these is not UNDONE");
        RUNS.onLaid("m1;c0;k0;", "pass(1) see(1,0) write(59) keep() fault() behind(1,0,0) burns(0) tell(0,2,-1) rakes(2) most(0,0) "
            + "first(1,0) needle(1,0,0) which() kinds(1,1) rain(0,1,1,1,0) february(0,9,0) forget() see(2,2) count(8)=1 undo()=0 "
            + "count(7)=1 count(9)=1 count(10)=10 undo()=NO");
        RUNS.sentence("what was refused is not UNDONE");
        RUNS.onNew("pass(0)=BAD pass(25)=BAD rake(0,0,0)=NO rake(1,0,0)=BAD cut(0,0)=NO turn(0)=NO heap(0,1)=NO heap(0,0)=BAD "
            + "count(8)=0 undo()=NO");
    }
}
