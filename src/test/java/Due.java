/** Counts the answers that are not the ones due, and ends the test program by them. */
final class Due {
    private int asked;
    private int wrong;

    void due(String call, long got, long want) {
        asked++;
        if (got != want) {
            wrong++;
            System.out.println(call + " answered " + got + ", due is " + want);
        }
    }

    void end(String test) {
        System.out.println(test + ": " + asked + " answers, " + wrong + " not as due");
        if (wrong != 0 || asked == 0) {
            System.exit(1);
        }
    }

    static HayTalk written(String text) {
        HayTalk hay = new HayTalk();
        writeOn(hay, text);
        return hay;
    }

    static void writeOn(HayTalk hay, String text) {
        for (int i = 0; i < text.length(); i++) {
            hay.write(text.charAt(i));
        }
    }

    static HayTalk laid(String text) {
        HayTalk hay = written(text);
        if (hay.lay() < 1) {
            throw new IllegalArgumentException("not to be laid: " + text);
        }
        return hay;
    }

    static void relay(HayTalk hay, String text) {
        hay.wipe();
        writeOn(hay, text);
        if (hay.lay() < 1) {
            throw new IllegalArgumentException("not to be laid: " + text);
        }
    }

    /** The set of the words that stand in it as figures. */
    static int set(String figures) {
        int bits = 0;
        for (int i = 0; i < figures.length(); i++) {
            bits |= 1 << figures.charAt(i) - '0';
        }
        return bits;
    }
}
