/** All that calls can tell of an object, as one text; with what can be UNDONE and what is KEPT, it uses the object up. */
final class Standing {
    private final HayTalk hay;
    private final StringBuilder told = new StringBuilder();

    private Standing(HayTalk hay) {
        this.hay = hay;
    }

    static String of(HayTalk hay) {
        Standing standing = new Standing(hay);
        standing.tellAll();
        return standing.told.toString();
    }

    static String usedUp(HayTalk hay) {
        Standing standing = new Standing(hay);
        standing.tellAll();
        while (hay.count(8) > 0) {
            standing.tell("undo", hay.undo());
            standing.tellShortly();
        }
        while (hay.count(9) > 0) {
            standing.tell("back", hay.back());
            standing.tellShortly();
        }
        return standing.told.toString();
    }

    private void tell(String what, int answer) {
        told.append(what).append(' ').append(answer).append(", ");
    }

    private void tellAll() {
        for (int what = 0; what <= 10; what++) {
            tell("count " + what, hay.count(what));
        }
        tell("fault", hay.fault());
        tell("which", hay.which());
        for (int m = 0; m < hay.count(0); m++) {
            for (int what = 0; what <= 2; what++) {
                tell("mower " + m + " " + what, hay.mower(m, what));
            }
        }
        for (int c = 0; c < hay.count(1); c++) {
            tell("kind " + c, hay.cow(c, 0));
            tell("told " + c, hay.cow(c, 1));
        }
        for (int k = 0; k < hay.count(2); k++) {
            tellRick(k);
        }
        tell("weather", hay.behind(40, 0, 1));
    }

    private void tellRick(int k) {
        for (int what = 0; what <= 3; what++) {
            tell("rick " + k + " " + what, hay.rick(k, what));
        }
        for (int i = 0; i < hay.rick(k, 1); i++) {
            for (int what = 0; what <= 2; what++) {
                tell("layer " + k + " " + i + " " + what, hay.layer(k, i, what));
            }
        }
    }

    /** A part of it, so that an object that is used up was not used for more than 512 calls. */
    private void tellShortly() {
        for (int what = 3; what <= 6; what++) {
            tell("count " + what, hay.count(what));
        }
        tell("lies", hay.mower(0, 1));
        tell("wet", hay.mower(0, 2));
        tell("told", hay.cow(0, 1));
        tell("layer", hay.layer(0, 0, 0));
        tell("hot", hay.rick(0, 2));
    }
}
