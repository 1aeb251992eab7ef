/** What the tests by hand share: answers held against those that are due, and the tape fed with texts and rows. */
class Bench {
    /** Far below and far above all that a call takes. */
    static final int LOW = Integer.MIN_VALUE;
    static final int HIGH = Integer.MAX_VALUE;

    private static int wrong = 0;
    private static String sentence = "";

    /** The sentence of the document that the answers behind it are held against. */
    static void says(String text) {
        sentence = text + " | ";
    }

    static void due(String what, long got, long want) {
        if (got != want) {
            wrong++;
            System.out.println(sentence + what + " answered " + got + ", due is " + want);
        }
    }

    static void yes(String what, boolean got) {
        due(what, got ? 1 : 0, 1);
    }

    static void no(String what, boolean got) {
        due(what, got ? 1 : 0, 0);
    }

    static void end(String allIsWell) {
        System.out.println(wrong == 0 ? allIsWell : wrong + " answers are not as due");
        if (wrong != 0) {
            System.exit(1);
        }
    }

    /** Feeds the bytes with zeros behind them up to the next twenty. */
    static void feedBytes(RawPictures x, int... bytes) {
        for (int at = 0; at < bytes.length; at += 20) {
            int[] five = new int[5];
            for (int i = 0; i < 20; i++) {
                five[i / 4] = five[i / 4] << 8 | (at + i < bytes.length ? bytes[at + i] & 255 : 0);
            }
            x.feed(five[0], five[1], five[2], five[3], five[4]);
        }
    }

    static int tell(RawPictures x, String text) {
        feedBytes(x, text.chars().toArray());
        return x.stages(text.length());
    }

    /** The answer of a new object. */
    static int read(String text) {
        return tell(new RawPictures(), text);
    }

    static RawPictures with(int w, int h, int phase, String text) {
        RawPictures x = new RawPictures();
        yes("raw " + w + " by " + h, x.raw(w, h, phase));
        due("stages " + text, tell(x, text) < 0 ? 0 : 1, 1);
        return x;
    }

    /** Rows told as numbers; the stages stay. */
    static void rows(RawPictures x, int[]... rows) {
        for (int y = 0; y < rows.length; y++) {
            feedBytes(x, rows[y]);
            x.row(y);
        }
    }

    /** A truth of one set of colours. */
    static void plain(RawPictures x, int red, int green, int blue) {
        feedBytes(x, red, green, blue, 0, 0, 0);
        yes("truth of " + red + ", " + green + ", " + blue, x.truth(0));
    }
}
