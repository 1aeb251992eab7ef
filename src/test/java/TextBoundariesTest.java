/** The tape and the text of STAGES: a test for each sentence that names a boundary (Terms, promises 2, 3, 12). */
public final class TextBoundariesTest extends Bench {
    private static final String EARLY = "bdol";
    private static final String LATE = "vwhygmpnst";
    private static final String ALL_LETTERS = "bdolfvwhygmpnst";
    private static final String ELEVEN = "b:0;b:0;b:0;b:0;b:0;b:0;b:0;b:0;b:0;b:0;f:0;";

    public static void main(String[] args) {
        twentyBytes();
        noMoreThan140();
        noneAtFirst();
        atMost120();
        howManyBytes();
        theTapeBehindACall();
        inPlaceOfThoseBefore();
        thoseBeforeStay();
        noBlanks();
        noOtherSign();
        theEndCantStand();
        theEndOfPoints();
        separators();
        howManyNumbers();
        oneToThreeDigits();
        everyNumber();
        everyPoint();
        pointsRise();
        lastPoint();
        twelveAtMost();
        fStandsOnce();
        sides();
        firstFromTheLeft();
        ofOnePlace();
        askedWhenANumberEnds();
        askedWhenTheLetterIsOne();
        numbersOfAStage();
        noSuchStage();
        end("the text's boundaries hold");
    }

    private static void twentyBytes() {
        says("2: Twenty bytes come behind the tape, the highest of each int first");
        RawPictures x = new RawPictures();
        x.raw(16, 4, 0);
        due("feed", x.feed(0x80ff7f00, 0x01020304, HIGH, LOW, 0x61616161), 20);
        yes("row", x.row(0));
        int[] want = {128, 255, 127, 0, 1, 2, 3, 4, 127, 255, 255, 255, 128, 0, 0, 0};
        for (int i = 0; i < 16; i++) {
            due("byte " + i, x.left(0, i, 0, x.colour(i, 0)), 16 * want[i]);
        }
        says("2: they come behind what the tape has");
        x.feed(0x623a3132, 0x333b643a, 0x34353b6f, 0x3a343b6c, 0x3a39383b);
        x.feed(0x663a313b, 0x763a3200, 0, 0, 0);
        due("a text over two calls", x.stages(27), 6);
        due("last number of the first call", x.stage(4, 1), 98);
        due("first letter of the second call", x.stage(5, 0), 'f');
    }

    private static void noMoreThan140() {
        says("2: how many it has; NONE if that would be more than 140");
        RawPictures x = new RawPictures();
        for (int i = 1; i <= 7; i++) {
            due("feed " + i, x.feed(i, 0, 0, 0, 0), 20 * i);
        }
        due("the eighth", x.feed(8, 8, 8, 8, 8), RawPictures.NONE);
        due("again", x.feed(LOW, HIGH, 0, -1, 1), RawPictures.NONE);
        due("the tape stays", x.count(1), 140);
        yes("taken", x.row(3));
        due("the first byte was not overwritten", x.rawIs(4), 1);
        due("a new tape", x.feed(0, 0, 0, 0, 0), 20);
    }

    private static void noneAtFirst() {
        says("STAGES (none at first)");
        RawPictures x = new RawPictures();
        due("count", x.count(0), 0);
        due("stage 1", x.stage(1, 0), -1);
        due("f", x.count(3), 0);
        due("kept", x.keep(), 0);
    }

    /** A right text of 120 bytes. */
    private static String longest() {
        StringBuilder text = new StringBuilder("f:0;t:000>000,9>99");
        for (int i = 1; i <= 12; i++) {
            text.append(',').append(100 + i).append('>').append(200 + i);
        }
        return text.append(",255>1").toString();
    }

    private static void atMost120() {
        says("a TEXT of at most 120 bytes");
        RawPictures x = new RawPictures();
        due("its length", longest().length(), 120);
        feedBytes(x, (longest() + ";v:1").chars().toArray());
        due("140 on the tape", x.count(1), 140);
        due("121 of them", x.stages(121), -1);
        due("124 of them, a right text", x.stages(124), -1);
        due("140 of them", x.stages(140), -1);
        due("141", x.stages(141), -1);
        due("the tape stays", x.count(1), 140);
        due("no stages yet", x.count(0), 0);
        due("120 of them", x.stages(120), 2);
        due("all its points", x.stage(2, 4), 30);
        due("120 alone", tell(x, longest()), 2);
        due("119 of them: the end", tell(x, longest().substring(0, 119)), -1119);
        due("a fault at the last", tell(x, longest().substring(0, 119) + "x"), -1119);
        due("a fault behind 118", tell(x, longest().substring(0, 118) + "x1"), -1118);
    }

    private static void howManyBytes() {
        says("3: by the first n bytes of the tape (0 to 120; 0: none)");
        RawPictures x = new RawPictures();
        due("0 of an empty tape", x.stages(0), 0);
        due("1 of an empty tape", x.stages(1), -1);
        due("below 0", x.stages(-1), -1);
        due("far below", x.stages(LOW), -1);
        due("far above", x.stages(HIGH), -1);
        feedBytes(x, "b:1;f:0;v:1;v:2;v:3".chars().toArray());
        due("one more than it has", x.stages(21), -1);
        due("nineteen", x.stages(19), 5);
        feedBytes(x, "b:1;f:0;v:1;v:2;v:3".chars().toArray());
        due("eleven", x.stages(11), 3);
        feedBytes(x, "b:1;f:0;v:1;v:2;v:3".chars().toArray());
        due("seven", x.stages(7), 2);
        feedBytes(x, "b:1;f:0;v:1;v:2;v:3".chars().toArray());
        due("three", x.stages(3), 1);
        feedBytes(x, "b:1;f:0;v:1;v:2;v:3".chars().toArray());
        due("0: none", x.stages(0), 0);
        due("none are there", x.count(0), 0);
        feedBytes(x, "b:1;f:0;m:1;n:2,33;b".chars().toArray());
        due("all twenty that it has: the last is a fault", x.stages(20), -6019);
        feedBytes(x, "b:1;f:0;m:1;n:2,33;v:1".substring(0, 20).chars().toArray());
        due("the end behind the twentieth", x.stages(20), -1020);
    }

    private static void theTapeBehindACall() {
        says("3: empty then; NONE: the tape stays");
        RawPictures x = new RawPictures();
        feedBytes(x, "b:1".chars().toArray());
        due("refused", x.stages(21), -1);
        due("stays", x.count(1), 20);
        due("refused", x.stages(-1), -1);
        due("stays", x.count(1), 20);
        due("taken", x.stages(3), 1);
        due("empty, all of it", x.count(1), 0);
        feedBytes(x, "x".chars().toArray());
        due("a fault", x.stages(1), -1000);
        due("empty behind a fault", x.count(1), 0);
        feedBytes(x, "x".chars().toArray());
        due("0", x.stages(0), 0);
        due("empty behind 0", x.count(1), 0);
    }

    private static void inPlaceOfThoseBefore() {
        says("3: in place of those before: how many");
        RawPictures x = with(4, 4, 0, "b:1;d:2;f:1;v:3;y:1,2,3");
        x.scene(0, 9, 0);
        due("left", x.left(1, 0, 0, 0), 128);
        due("fewer", tell(x, "b:2"), 1);
        due("count", x.count(0), 1);
        due("no f", x.count(3), 0);
        due("no second", x.stage(2, 0), -1);
        due("the new number", x.stage(1, 1), 2);
        due("left anew", x.left(1, 0, 0, 0), 112);
        due("more", tell(x, "o:1;l:5;f:0"), 3);
        due("f", x.count(3), 3);
        due("left by the new ones", x.left(1, 0, 0, 0), 0);
        due("none", x.stages(0), 0);
        due("no f any more", x.count(3), 0);
        due("nothing left but the RAW", x.left(1, 0, 0, 0), -1);
        due("the RAW", x.left(0, 0, 0, 0), 144);
    }

    private static void thoseBeforeStay() {
        says("3: a FAULT: those before stay");
        RawPictures x = with(4, 4, 0, "b:7;f:1;p:2,30");
        x.scene(0, 9, 0);
        String[] bad = {"d:1;x", "d:1;d:1;d:1;d:0000", "o:1;o:2;o:3;o:4;o:5", "d:1;f:0;f:0", "d:1;f:0;y:9,9,33", ELEVEN + "v:1;v:1"};
        int[] fault = {-1004, -2017, -3018, -6008, -3014, -4048};
        for (int i = 0; i < bad.length; i++) {
            due(bad[i], tell(x, bad[i]), fault[i]);
            due("how many", x.count(0), 3);
            due("f", x.count(3), 2);
            due("letters", x.stage(1, 0) * 1000000 + x.stage(2, 0) * 1000 + x.stage(3, 0), 'b' * 1000000 + 'f' * 1000 + 'p');
            due("numbers", x.stage(1, 1) * 10000 + x.stage(2, 1) * 1000 + x.stage(3, 1) * 100 + x.stage(3, 2), 71230);
            due("how many numbers", x.stage(1, 4) * 100 + x.stage(2, 4) * 10 + x.stage(3, 4), 112);
            due("what they leave", x.left(1, 0, 0, 0), 32);
        }
    }

    private static void noBlanks() {
        says("no blanks; FAULT 1: what can't stand there");
        for (String text : new String[] {"b:1;f:0;n:2,3", "f:0;t:0>1,9>2,255>3"}) {
            for (int i = 0; i <= text.length(); i++) {
                if (i > 0 && i < text.length() && Character.isDigit(text.charAt(i - 1)) && Character.isDigit(text.charAt(i))) {
                    continue;
                }
                due("a blank at " + i + " of " + text, read(text.substring(0, i) + " " + text.substring(i)), -1000 - i);
            }
        }
    }

    private static void noOtherSign() {
        says("FAULT 1: what can't stand there");
        String text = "b:12;f:0;n:2,3;t:0>1,1>2,255>3";
        String known = ALL_LETTERS + "0123456789:;,>";
        for (int sign = 0; sign < 256; sign++) {
            if (known.indexOf(sign) >= 0) {
                continue;
            }
            RawPictures x = new RawPictures();
            for (int i = 0; i < text.length(); i++) {
                due("sign " + sign + " at " + i, tell(x, text.substring(0, i) + (char) sign + text.substring(i + 1)), -1000 - i);
            }
            due("sign " + sign + " at the end", tell(x, text + (char) sign), -1000 - text.length());
        }
        for (char capital : ALL_LETTERS.toUpperCase().toCharArray()) {
            due("a capital " + capital, read(capital + ":1"), -1000);
        }
        for (char other : "aceijkqruxz".toCharArray()) {
            due("no stage " + other, read(other + ":1"), -1000);
            due("no stage " + other + " behind f", read("f:0;" + other + ":1"), -1004);
        }
        says("FAULT 1: signs that stand elsewhere");
        String[] wrongOnes = {"0:;,>", "b0;,>", "b:;,>", "b:,>", "0:;,>"};
        for (int i = 0; i < wrongOnes.length; i++) {
            for (char sign : wrongOnes[i].toCharArray()) {
                due(sign + " at " + i, read("b:1;f:0".substring(0, i) + sign + "b:1;f:0".substring(i + 1)), -1000 - i);
            }
        }
        due("a letter for a digit", read("b:b"), -1002);
        due("a sign", read("b:+1"), -1002);
        due("a number below 0", read("b:-1"), -1002);
        due("a letter behind a letter", read("bb:1"), -1001);
        due("/ is ahead of 0", read("b:/"), -1002);
        due(": is behind 9", read("b::"), -1002);
        due("= for >", read("f:0;t:0=1"), -1007);
    }

    private static void theEndCantStand() {
        says("FAULT 1: the end, too");
        String text = "b:1;f:0;y:1,2,3";
        int[] stages = {0, -1, -1, 1, -1, -1, -1, 2, -1, -1, -1, -1, -1, -1, -1, 3};
        for (int i = 0; i <= text.length(); i++) {
            due(text.substring(0, i), read(text.substring(0, i)), stages[i] < 0 ? -1000 - i : stages[i]);
        }
        due("p", read("f:0;p:1"), -1007);
        due("n", read("f:0;n:1,"), -1008);
        due("s", read("f:0;s:99"), -1008);
        due("g", read("f:0;g:99,99"), -1011);
    }

    private static void theEndOfPoints() {
        says("FAULT 1: the end of t, too");
        String text = "f:0;t:0>1,255>20;v:1";
        int[] stages = {0, -1, -1, 1, -1, -1, -1, -1, -1, -1, -1, -1, -1, -1, -1, 2, 2, -1, -1, -1, 3};
        for (int i = 0; i <= text.length(); i++) {
            due(text.substring(0, i), read(text.substring(0, i)), stages[i] < 0 ? -1000 - i : stages[i]);
        }
    }

    private static void separators() {
        says("STAGES with a ; (59) between two");
        due("one behind the last", read("b:1;"), -1004);
        due("one ahead of the first", read(";b:1"), -1000);
        due("one alone", read(";"), -1000);
        due("two", read("b:1;;f:0"), -1004);
        due("none", read("b:1f:0"), -1003);
        due(", instead", read("b:1,f:0"), -1003);
        due(": instead", read("b:1:f:0"), -1003);
        says("a letter, : (58), NUMBERS with a , (44) between two");
        due("no :", read("b1"), -1001);
        due("two :", read("b::1"), -1002);
        due("no ,", read("f:0;n:1"), -1007);
        due("two ,", read("f:0;n:1,,2"), -1008);
        due("; for ,", read("f:0;n:1;2"), -1007);
        due("> for ,", read("f:0;n:1>2"), -1007);
        due(", ahead of the first", read("f:0;n:,1,2"), -1006);
        due(", for >", read("f:0;t:0,1"), -1007);
        due("two >", read("f:0;t:0>>1"), -1008);
        due("> behind a point", read("f:0;t:0>1>2"), -1009);
        due("; between two points", read("f:0;t:0>1;255>2"), -1009);
    }

    /** A letter's numbers, all 1, as many as told. */
    private static String numbers(char letter, int many) {
        StringBuilder text = new StringBuilder(EARLY.indexOf(letter) >= 0 || letter == 'f' ? "" : "f:0;").append(letter).append(":1");
        for (int i = 1; i < many; i++) {
            text.append(",1");
        }
        return text.toString();
    }

    private static int many(char letter) {
        return "yg".indexOf(letter) >= 0 ? 3 : "pns".indexOf(letter) >= 0 ? 2 : 1;
    }

    private static void howManyNumbers() {
        says("each letter has as many NUMBERS as are told");
        for (char letter : "bdolfvwhygmpns".toCharArray()) {
            for (int i = 1; i <= 4; i++) {
                String text = numbers(letter, i);
                int right = numbers(letter, many(letter)).length();
                int stages = text.startsWith("f:0;") ? 2 : 1;
                int want = i == many(letter) ? stages : -1000 - Math.min(text.length(), right);
                due(text, read(text), want);
            }
        }
    }

    private static void oneToThreeDigits() {
        says("NUMBERS (one to three digits); FAULT 2: a fourth digit, at it");
        due("none", read("b:;f:0"), -1002);
        due("one", read("b:7"), 1);
        due("two", read("b:17"), 1);
        due("three", read("b:117"), 1);
        due("four", read("b:0117"), -2005);
        due("five", read("b:00117"), -2005);
        due("four zeros", read("b:0000"), -2005);
        due("four of the second number", read("f:0;n:1,0002"), -2011);
        due("four of the third number", read("f:0;g:1,2,0003"), -2013);
        due("four of an X", read("f:0;t:0000>1"), -2009);
        due("four of a Y", read("f:0;t:0>0001"), -2011);
        due("four of a later X", read("f:0;t:0>1,0255>1"), -2013);
        due("four of the last Y", read("f:0;t:0>1,255>0001"), -2017);
        RawPictures x = new RawPictures();
        due("zeros ahead", tell(x, "b:007;d:07;f:001;v:03"), 4);
        due("the number", x.stage(1, 1) * 100 + x.stage(2, 1) * 10 + x.stage(3, 1), 771);
        due("the last", x.stage(4, 1), 3);
    }

    private static void everyNumber() {
        says("FAULT 3: a NUMBER that is none of those told, at its first digit");
        String letters = "bdolfvwhyyygggmppnnss";
        int[] place = {0, 0, 0, 0, 0, 0, 0, 0, 0, 1, 2, 0, 1, 2, 0, 0, 1, 0, 1, 0, 1};
        int[] least = {0, 0, 1, 0, 0, 1, 0, 0, 0, 0, 0, 0, 0, 0, 0, 1, 0, 0, 0, 0, 0};
        int[] greatest = {255, 255, 4, 99, 1, 3, 255, 254, 32, 32, 32, 99, 99, 99, 99, 4, 32, 99, 99, 99, 99};
        for (int i = 0; i < place.length; i++) {
            String all = numbers(letters.charAt(i), many(letters.charAt(i)));
            int at = all.indexOf(letters.charAt(i) + ":", all.length() > 4 && all.startsWith("f:0;") ? 4 : 0) + 2 + 2 * place[i];
            int stages = all.startsWith("f:0;") ? 2 : 1;
            RawPictures x = null;
            for (int number = 0; number < 1000; number++) {
                // an object is used for no more than 512 calls
                x = number % 100 == 0 ? new RawPictures() : x;
                String text = all.substring(0, at) + number + all.substring(at + 1);
                boolean isTold = number >= least[i] && number <= greatest[i];
                due(text, tell(x, text), isTold ? stages : -3000 - at);
                if (isTold) {
                    due("the number of " + text, x.stage(stages, 1 + place[i]), number);
                }
            }
        }
    }

    private static void everyPoint() {
        says("t: points of X and Y (0 to 255 both)");
        RawPictures x = null;
        for (int number = 0; number < 1000; number++) {
            x = number % 50 == 0 ? new RawPictures() : x;
            due("first X " + number, tell(x, "f:0;t:" + number + ">1,255>2"), number == 0 ? 2 : -3006);
            due("first Y " + number, tell(x, "f:0;t:0>" + number + ",255>2"), number <= 255 ? 2 : -3008);
            int second = number == 0 || number > 255 ? -3010 : number == 255 ? -1000 - 15 : 2;
            due("second X " + number, tell(x, "f:0;t:0>1," + number + ">2,255>3"), second);
            due("last Y " + number, tell(x, "f:0;t:0>1,255>" + number), number <= 255 ? 2 : -3014);
        }
    }

    private static void pointsRise() {
        says("X rising; FAULT 3: an X that does not rise, at its first digit");
        due("rises by 1", read("f:0;t:0>0,1>0,2>0,255>0"), 2);
        due("the same", read("f:0;t:0>0,7>0,7>0,255>0"), -3014);
        due("less by 1", read("f:0;t:0>0,7>0,6>0,255>0"), -3014);
        due("0 again", read("f:0;t:0>0,0>0,255>0"), -3010);
        due("254, 255", read("f:0;t:0>0,254>0,255>0"), 2);
        due("less than the one ahead, more than the one ahead of that", read("f:0;t:0>0,10>0,100>0,50>0,255>0"), -3021);
        due("Y need not rise", read("f:0;t:0>255,1>0,255>255"), 2);
        says("FAULT 3: the first X but 0");
        due("1", read("f:0;t:1>0,255>0"), -3006);
        due("255", read("f:0;t:255>0"), -3006);
        due("00", read("f:0;t:00>0,255>0"), 2);
    }

    private static void lastPoint() {
        says("the last X 255 (no point behind it)");
        due("254 at the end", read("f:0;t:0>0,254>0"), -1015);
        due("254 ahead of ;", read("f:0;t:0>0,254>0;v:1"), -1015);
        due("0 alone", read("f:0;t:0>0"), -1009);
        due("0 alone ahead of ;", read("f:0;t:0>0;v:1"), -1009);
        due("a point behind it", read("f:0;t:0>0,255>0,255>0"), -1015);
        due("a , behind it", read("f:0;t:0>0,255>0,"), -1015);
        due("right", read("f:0;t:0>0,255>0;v:1"), 3);
    }

    private static void twelveAtMost() {
        says("12 at most; FAULT 4: a 13th STAGE, at its letter");
        due("eleven", read(ELEVEN.substring(0, 43)), 11);
        due("twelve", read(ELEVEN + "v:1"), 12);
        due("thirteen", read(ELEVEN + "v:1;v:1"), -4048);
        due("its letter is enough", read(ELEVEN + "v:1;v"), -4048);
        due("its number is not looked at", read(ELEVEN + "v:1;v:9999"), -4048);
        due("thirteen b", read("b:0;".repeat(12) + "b:0"), -4048);
        due("thirteen, the last f", read("b:0;".repeat(12) + "f:0"), -4048);
        due("a fault in the twelfth comes first", read(ELEVEN + "v:4;v:1"), -3046);
    }

    private static void fStandsOnce() {
        says("f stands once; FAULT 6: f behind f, at its letter");
        due("once", read("f:0"), 1);
        due("twice", read("f:0;f:0"), -6004);
        due("twice, another K", read("f:0;v:1;f:1"), -6008);
        due("f need not stand", read("b:1;d:1;o:1;l:1"), 4);
    }

    private static void sides() {
        says("FAULT 6: b, d, o, l behind f, at its letter");
        for (char letter : EARLY.toCharArray()) {
            due(letter + " ahead", read(letter + ":1;f:0"), 2);
            due(letter + " behind", read("f:0;" + letter + ":1"), -6004);
            due(letter + " far behind", read("b:1;f:0;v:1;m:1;" + letter + ":1"), -6016);
        }
        says("FAULT 6: the others without an f ahead, at its letter");
        for (char letter : LATE.toCharArray()) {
            String numbers = letter == 't' ? "0>0,255>0" : numbers(letter, many(letter)).substring(6);
            due(letter + " behind", read("f:1;" + letter + ":" + numbers), 2);
            due(letter + " at first", read(letter + ":" + numbers), -6000);
            due(letter + " ahead", read("b:1;" + letter + ":" + numbers + ";f:0"), -6004);
        }
    }

    private static void firstFromTheLeft() {
        says("FAULTS, the first from the left");
        due("3 ahead of 1", read("b:256;x"), -3002);
        due("1 ahead of 3", read("x:256"), -1000);
        due("2 ahead of 3", read("b:0001;d:256"), -2005);
        due("3 ahead of 2", read("b:256;d:0001"), -3002);
        due("6 ahead of 1", read("v:x"), -6000);
        due("6 ahead of 4", read("v:1;" + "b:0;".repeat(12) + "b:0"), -6000);
        due("two of 3", read("f:0;y:33,33,33"), -3006);
        due("3 ahead of the end", read("f:0;p:0"), -3006);
        due("the first X ahead of its Y", read("f:0;t:1>256"), -3006);
        due("Y ahead of the next X", read("f:0;t:0>256,0>0"), -3008);
    }

    private static void ofOnePlace() {
        says("FAULTS of one place: that of the least number");
        due("4 and 6: a 13th behind f", read(ELEVEN + "v:1;b:0"), -4048);
        due("4 and 6: a 13th f", read(ELEVEN + "v:1;f:0"), -4048);
        due("4 and 6: a 13th without f", read("b:0;".repeat(12) + "v:0"), -4048);
    }

    private static void askedWhenANumberEnds() {
        says("FAULT 3: asked when it ends");
        due("at the end of the text", read("b:256"), -3002);
        due("ahead of what can't stand", read("b:256x"), -3002);
        due("ahead of ;", read("b:999;f:0"), -3002);
        due("ahead of , that can't stand", read("b:256,1"), -3002);
        due("not ahead of a fourth digit", read("b:2560"), -2005);
        due("o:10 ends behind 0", read("o:10"), -3002);
        due("o:04 is 4", read("o:04"), 1);
        due("an X that would rise by its next digit", read("f:0;t:0>0,20>0,3>0"), -3015);
        due("an X that rises by its next digit", read("f:0;t:0>0,20>0,30>0,255>0"), 2);
    }

    private static void askedWhenTheLetterIsOne() {
        says("4, 6 asked when the letter is one of these");
        due("a 13th x", read(ELEVEN + "v:1;x:1"), -1048);
        due("a 13th end", read(ELEVEN + "v:1;"), -1048);
        due("x behind f", read("f:0;x:1"), -1004);
        due("x without f", read("x:1"), -1000);
        due("asked ahead of :", read("f:0;b"), -6004);
        due("asked ahead of what is for :", read("v;"), -6000);
    }

    private static void numbersOfAStage() {
        says("12: 1 to 3 its first NUMBERS (not so many: -2), 4 how many NUMBERS");
        RawPictures x = with(4, 4, 0, "b:1;d:2;o:3;l:4;f:1;v:2;w:7;h:8;y:9,10,11;g:12,13,14;m:15;p:4,17");
        int[][] want = {{'b', 1, -2, -2, 1}, {'d', 2, -2, -2, 1}, {'o', 3, -2, -2, 1}, {'l', 4, -2, -2, 1}, {'f', 1, -2, -2, 1},
            {'v', 2, -2, -2, 1}, {'w', 7, -2, -2, 1}, {'h', 8, -2, -2, 1}, {'y', 9, 10, 11, 3}, {'g', 12, 13, 14, 3},
            {'m', 15, -2, -2, 1}, {'p', 4, 17, -2, 2}};
        for (int k = 1; k <= 12; k++) {
            for (int what = 0; what <= 4; what++) {
                due("stage " + k + ", what " + what, x.stage(k, what), want[k - 1][what]);
            }
        }
        tell(x, "f:0;n:20,21;s:22,23");
        due("n", x.stage(2, 1) * 100 + x.stage(2, 2), 2021);
        due("n has no third", x.stage(2, 3), -2);
        due("s", x.stage(3, 1) * 100 + x.stage(3, 2), 2223);
        due("s has no third", x.stage(3, 3), -2);
        says("12: t: its first X, Y, second X; two for each point");
        tell(x, "f:0;t:0>31,255>32;t:0>1,9>2,10>3,255>4");
        due("first X", x.stage(2, 1), 0);
        due("first Y", x.stage(2, 2), 31);
        due("second X", x.stage(2, 3), 255);
        due("two points", x.stage(2, 4), 4);
        due("second X of four", x.stage(3, 3), 9);
        due("four points", x.stage(3, 4), 8);
    }

    private static void noSuchStage() {
        says("12: NONE: no such ones");
        RawPictures x = with(4, 4, 0, "b:1;f:0");
        for (int k : new int[] {LOW, -1, 0, 3, 12, 13, HIGH}) {
            for (int what = 0; what <= 4; what++) {
                due("stage " + k + ", what " + what, x.stage(k, what), -1);
            }
        }
        for (int what : new int[] {LOW, -1, 5, HIGH}) {
            due("what " + what, x.stage(1, what), -1);
        }
        says("12: NONE comes ahead of -2");
        due("no third number of no stage", x.stage(3, 3), -1);
    }
}
