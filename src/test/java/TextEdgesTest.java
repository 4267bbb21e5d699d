import java.util.Random;

/** '======== 1', TEXTS and FAULTS, and promises 6 to 8: each NUMBER's ends, each count's, each FAULT's place. */
public final class TextEdgesTest {
    private static final String GOOD = "w10;g2;g30;p1,0,2;t20,99,9;";
    private static final String ANT = "q3,40,5;";
    private static final Random DRAW = new Random(77);

    public static void main(String[] args) {
        tapeHas120();
        bytesComeOneByOne();
        eachNumber();
        threeFigures();
        pullsFiveAtMost();
        antsSixAtMost();
        theEnd();
        ofOneTokenTheLeast();
        theFirstToken();
        eachByteEverywhere();
        drawnTexts();
        wallInPlaceOfAnother();
        latestFault();
        Check.end("TextEdgesTest");
    }

    private static void tapeHas120() {
        AntBand x = new AntBand();
        Check.due("6: empty at first", x.count(7), 0);
        for (int many = 1; many <= 120; many++) {
            Check.due("6: byte " + many, x.feed('w'), many);
            Check.due("39: bytes on the tape", x.count(7), many);
        }
        Check.due("6: the 121st", x.feed('w'), Check.FULL);
        Check.due("39: 120 yet", x.count(7), 120);
        Check.due("7: 120 bytes are read", x.wall(), -1000101);
        Check.due("7: the tape is empty then", x.count(7), 0);
        for (int many = 1; many <= 120; many++) {
            Check.due("6: and has room for 120 again", x.feed('w'), many);
        }
        Check.due("6: the 121st again", x.feed('w'), Check.FULL);
        AntBand y = new AntBand();
        String longest = "w99;g99;g99;g99;g99;g99;" + "q20,99,09;".repeat(6);
        Check.due("6: the longest WALL", Check.feed(y, longest), 84);
        Check.feed(y, "x".repeat(36));
        Check.due("6: 120 then", y.count(7), 120);
        Check.due("7: FAULT just behind it", y.wall(), -1000184);
    }

    private static void bytesComeOneByOne() {
        AntBand x = new AntBand();
        for (int letter = 0; letter < 256; letter++) {
            Check.due("6: letter " + letter, x.feed(letter), letter % 64 + 1);
            if (letter % 64 == 63) {
                Check.due("7: read", x.wall() <= -1000100 ? 1 : 0, 1);
            }
        }
        AntBand y = new AntBand();
        for (int i = 0; i < GOOD.length(); i++) {
            y.feed(GOOD.charAt(i));
            y.feed(256);
            y.feed(-1);
        }
        Check.due("6: what is refused does not come on the tape", y.wall(), 2);
    }

    private static void eachNumber() {
        for (int value = 0; value < 100; value++) {
            number("w#;g1;p1,0,1;", value, 1, 99, x -> x.count(4));
            number("w1;g#;p1,0,1;", value, 0, 99, x -> x.pulls(0));
            number("w1;g0;g1;g2;g3;g#;p1,0,1;", value, 0, 99, x -> x.pulls(4));
            number("w1;g1;p#,0,1;", value, 1, 20, x -> x.ant(0, 0));
            number("w1;g1;p1,#,1;", value, 0, 99, x -> x.ant(0, 5));
            number("w1;g1;p1,#,1;", value, 0, 99, x -> x.ant(0, 2) / 10000);
            number("w1;g1;p1,0,#;", value, 1, 9, x -> x.ant(0, 1));
            number("w1;g1;p1,0,1;u2,5,#;", value, 1, 9, x -> x.ant(1, 1));
        }
    }

    private interface Asked {
        int of(AntBand x);
    }

    /** By one figure, if it has one, and by two. */
    private static void number(String text, int value, int least, int most, Asked asked) {
        String two = "" + value / 10 + value % 10;
        for (String figures : value < 10 ? new String[] {"" + value, two} : new String[] {two}) {
            AntBand x = new AntBand();
            int answer = Check.read(x, text.replace("#", figures));
            String name = "7: " + figures + " in " + text;
            if (value < least || value > most) {
                Check.due(name, answer, -1000100 - text.indexOf('#'));
                Check.due("8: " + figures + " in " + text, x.fault(), 2);
                Check.due(name + ": no WALL", x.minutes(1), Check.STATE);
            } else {
                Check.due(name, answer < 1 ? answer : 1, 1);
                Check.due(name, asked.of(x), value);
                Check.due("8: none by " + text, x.fault(), 0);
            }
        }
    }

    private static void fault(String name, String text, int place, int number) {
        AntBand x = new AntBand();
        Check.due("7: " + name + ": " + text, Check.read(x, text), -1000100 - place);
        Check.due("8: " + name + ": " + text, x.fault(), number);
        Reader model = Reader.of(text);
        Check.due("the model of " + text, model.answer() * 10L - model.fault, (-1000100 - place) * 10L - number);
    }

    private static void threeFigures() {
        String[] texts = {"w#;g1;p1,0,1;", "w1;g#;p1,0,1;", "w1;g1;p#,0,1;", "w1;g1;p1,#,1;", "w1;g1;p1,0,#;"};
        for (String text : texts) {
            for (String figures : new String[] {"000", "001", "010", "099", "100", "999", "0001", "12345"}) {
                fault("three figures at their first", text.replace("#", figures), text.indexOf('#'), 1);
            }
            fault("no figure", text.replace("#", ""), text.indexOf('#'), 1);
            fault("figures to the end", text.substring(0, text.indexOf('#')) + "123", text.indexOf('#'), 1);
        }
        fault("three figures where none can stand", "w1;123", 3, 1);
        fault("many figures", "w" + "1".repeat(119), 1, 1);
    }

    private static void pullsFiveAtMost() {
        fault("no pull", "w1;p1,0,1;", 3, 1);
        String text = "w1;";
        for (int many = 1; many <= 5; many++) {
            text += "g" + many + ";";
            AntBand x = new AntBand();
            Check.due("7: " + many + " PULLS", Check.read(x, text + ANT), 1);
            Check.due("39: PULLS", x.count(1), many);
            Check.due("16: the last one", x.pulls(many - 1), many);
            Check.due("16: no more", x.pulls(many), Check.NONE);
        }
        fault("the sixth pull, its letter", text + "g6;" + ANT, text.length(), 3);
        fault("the sixth pull, whatever follows", text + "g100;", text.length(), 3);
        fault("the sixth pull, nothing follows", text + "g", text.length(), 3);
    }

    private static void antsSixAtMost() {
        fault("no ant", "w1;g1;", 6, 1);
        String text = "w1;g1;";
        for (int many = 1; many <= 6; many++) {
            text += ANT;
            AntBand x = new AntBand();
            Check.due("7: " + many + " ANTS", Check.read(x, text), many);
            Check.due("39: ANTS", x.count(2), many);
            Check.due("15: the last one", x.ant(many - 1, 0), 3);
            Check.due("15: no more", x.ant(many, 0), Check.BAD);
        }
        for (char sort : "ptqbu".toCharArray()) {
            fault("the seventh ant, its letter", text + sort + "1,0,1;", text.length(), 3);
            fault("the seventh ant, whatever follows", text + sort + ",,", text.length(), 3);
            fault("the seventh ant, nothing follows", text + sort, text.length(), 3);
        }
    }

    private static void theEnd() {
        fault("nothing at all", "", 0, 1);
        for (int end = 1; end < GOOD.length(); end++) {
            String text = GOOD.substring(0, end);
            // a text that ends behind its first ant is a WALL
            if (end == GOOD.indexOf('t')) {
                Check.due("7: " + text, Check.read(new AntBand(), text), 1);
            } else {
                fault("the end: how many bytes there are", text, end, 1);
            }
        }
        whatWasReadIsGone();
    }

    /** Bytes of an earlier text do not stand behind the end of a later one. */
    private static void whatWasReadIsGone() {
        for (int end = 0; end < GOOD.length(); end++) {
            AntBand x = Check.told(GOOD);
            String text = GOOD.substring(0, end);
            Reader model = Reader.of(text);
            Check.due("7: behind a longer text: " + text, Check.read(x, text), model.answer());
            Check.due("8: behind a longer text: " + text, x.fault(), model.fault);
        }
        AntBand figures = Check.told("w11;g1;p1,0,1;");
        Check.due("7: a NUMBER ends with the text", Check.read(figures, "w1"), -1000102);
        AntBand nothing = Check.told(GOOD);
        Check.due("7: an empty tape is no WALL", nothing.wall(), -1000100);
    }

    private static void ofOneTokenTheLeast() {
        String five = "w1;g1;g1;g1;g1;g1;";
        String six = "w1;g1;" + ANT.repeat(6);
        fault("a number that is not as told, where none can stand: 1", "w1;0", 3, 1);
        fault("a pull behind an ant, five there are: 1", five + ANT + "g1;", five.length() + ANT.length(), 1);
        fault("a pull behind six ants: 1", six + "g", six.length(), 1);
        fault("a sort within the sixth ant: 1", six.substring(0, six.length() - 1) + "p", six.length() - 1, 1);
        fault("a pull within the fifth: 1", five.substring(0, five.length() - 1) + "g", five.length() - 1, 1);
        fault("no sort behind six ants: 1", six + "w", six.length(), 1);
        fault("a sign behind six ants: 1", six + ";", six.length(), 1);
        fault("a number behind six ants: 1", six + "0", six.length(), 1);
    }

    private static void theFirstToken() {
        fault("2 ahead of 1", "w0,", 1, 2);
        fault("2 ahead of the end", "w0", 1, 2);
        fault("2 ahead of 2", "w1;g1;p21,0,10;", 7, 2);
        fault("2 ahead of three figures", "w1;g1;p0,100,1;", 7, 2);
        fault("1 ahead of 2", "w1,g1;p0", 2, 1);
        fault("1 ahead of 3", "w1;g1;g1;g1;g1;g1,g1;", 17, 1);
        fault("3 ahead of 2", "w1;g1;g1;g1;g1;g1;g1;p0", 18, 3);
        fault("2 ahead of 3", "w0;g1;g1;g1;g1;g1;g1;", 1, 2);
    }

    /** Each byte of a good text is any of 256, once, or is put in, or is left out. */
    private static void eachByteEverywhere() {
        for (int at = 0; at <= GOOD.length(); at++) {
            String before = GOOD.substring(0, at);
            String from = GOOD.substring(at);
            for (char letter = 0; letter < 256; letter++) {
                asModel(before + letter + from);
                if (!from.isEmpty()) {
                    asModel(before + letter + from.substring(1));
                }
            }
            asModel(before + (from.isEmpty() ? "" : from.substring(1)));
        }
    }

    private static void asModel(String text) {
        AntBand x = new AntBand();
        Reader model = Reader.of(text);
        Check.due("7: " + text, Check.read(x, text), model.answer());
        Check.due("8: " + text, x.fault(), model.fault);
        Check.due("39: PULLS by " + text, x.count(1), model.pulls);
    }

    private static void drawnTexts() {
        String signs = "w1;g23;g0;pqtbu1,0,1;,;x9";
        for (int run = 0; run < 4000; run++) {
            StringBuilder text = new StringBuilder("w9;");
            for (int many = DRAW.nextInt(7); many > 0; many--) {
                text.append('g').append(DRAW.nextInt(DRAW.nextInt(30) == 0 ? 200 : 100)).append(';');
            }
            for (int many = DRAW.nextInt(8); many > 0; many--) {
                text.append("ptqbu".charAt(DRAW.nextInt(5))).append(DRAW.nextInt(22)).append(',');
                text.append(DRAW.nextInt(101)).append(',').append(DRAW.nextInt(11)).append(';');
            }
            for (int many = DRAW.nextInt(3); many > 0; many--) {
                text.setCharAt(DRAW.nextInt(text.length()), signs.charAt(DRAW.nextInt(signs.length())));
            }
            asModel(text.toString());
        }
    }

    private static void wallInPlaceOfAnother() {
        AntBand x = Check.told("w20;g5;g6;g7;q3,10,1;p2,20,2;");
        x.minutes(7);
        x.letGo();
        Check.due("7: another one", Check.read(x, "w9;g1;g2;b5,60,3;"), 1);
        int[] due = {0, 2, 1, 0, 9, 0, 0, 0};
        for (int what = 0; what < 8; what++) {
            Check.due("7: count(" + what + ") then", x.count(what), due[what]);
        }
        Check.due("7: no ACT can be undone", x.undo(), Check.STATE);
        Check.due("7: the third PULL is gone", x.pulls(2), Check.NONE);
        Check.due("7: the second ANT is gone", x.kind(1), Check.BAD);
        Check.due("7: MINUTE 0, so the first PULL", x.minutes(1), 10);
        Check.due("7: one ACT then", x.count(6), 1);
        Check.due("7: alike, read again", Check.read(x, "w9;g1;g2;b5,60,3;"), 1);
        Check.due("7: PART is FROM again", x.ant(0, 2), 600000);
        Check.due("7: LENGTH as told again", x.count(4), 9);
    }

    private static void latestFault() {
        AntBand x = new AntBand();
        Check.due("8: 0 before one", x.fault(), 0);
        Check.read(x, GOOD);
        Check.due("8: 0 behind a good one", x.fault(), 0);
        String[] texts = {"w0", "w", "w1;g1;g1;g1;g1;g1;g"};
        int[] due = {2, 1, 3};
        for (int i = 0; i < 3; i++) {
            Check.read(x, texts[i]);
            Check.due("8: the latest", x.fault(), due[i]);
        }
        Check.due("8: fault changes nothing", x.fault(), 3);
        Check.read(x, GOOD);
        Check.due("8: the latest stays behind a good one", x.fault(), 3);
    }
}
