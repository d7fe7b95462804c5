import java.nio.charset.StandardCharsets;

/** Promises 1 to 6: a new object, the input buffer, the setup text and its errors. */
public final class InputTest {
    private static final Class<IndexOutOfBoundsException> INDEX = IndexOutOfBoundsException.class;
    private static final Class<IllegalStateException> STATE = IllegalStateException.class;

    private static final int BLANKS = 0x20202020;
    private static final String SIXTEEN = "8 9 10 11 12 13 14 15 16 17 18 19 20 21 22 23";
    private static final String EIGHT = "body a period 100;body b period 100;body c period 100;body d period 100;"
            + "body e period 100;body f period 100;body g period 100;body h period 100;";

    private InputTest() {
    }

    public static void main(String[] args) {
        constants();
        newObject();
        appendsUpTo900Bytes();
        appendsTheMostSignificantByteFirst();
        truncates();
        loadsBodiesAndEmptiesTheBuffer();
        loadReplacesEverything();
        eachTextIsReadByItself();
        readsToTheEndOfTheText();
        errorChangesNothing();
        tellsTheLatestLoad();
        takesAllThatTheFormAllows();
        findsSyntaxErrors();
        findsNumbersOutOfRange();
        findsBadNames();
        findsMisplacedWords();
        reportsTheFirstErrorWithTheSmallestCode();
        Check.end("InputTest");
    }

    private static void constants() {
        Check.equal("NO_ERROR", PlanetDrive.NO_ERROR, 0);
        Check.equal("SYNTAX", PlanetDrive.SYNTAX, 1);
        Check.equal("OUT_OF_RANGE", PlanetDrive.OUT_OF_RANGE, 2);
        Check.equal("BAD_NAME", PlanetDrive.BAD_NAME, 3);
        Check.equal("MISPLACED", PlanetDrive.MISPLACED, 4);
    }

    private static void newObject() {
        PlanetDrive drive = new PlanetDrive();
        int[] due = {0, 0, 2000, 60, 0, 0, 0};
        for (int what = 0; what < due.length; what++) {
            Check.equal("count " + what, drive.count(what), due[what]);
        }
        Check.equal("error code", drive.errorCode(), PlanetDrive.NO_ERROR);
        Check.equal("error offset", drive.errorOffset(), -1);
        Check.equal("output", drive.outputByte(0), -1);
        Check.equal("undo", drive.undo(), -1);
        Check.refuses("a body", INDEX, () -> drive.body(0, 0));
        Check.refuses("a saved state", STATE, drive::restoreState);
        Check.isFalse("a byte in the buffer", drive.truncateInput(1));
        Check.isTrue("an empty buffer", drive.truncateInput(0));
    }

    private static int appendBlanks(PlanetDrive drive) {
        return drive.appendInput(BLANKS, BLANKS, BLANKS, BLANKS, BLANKS);
    }

    private static void appendsUpTo900Bytes() {
        PlanetDrive drive = new PlanetDrive();
        for (int length = 20; length <= 900; length += 20) {
            Check.equal("appended", appendBlanks(drive), length);
        }
        Check.equal("too much", appendBlanks(drive), -1);
        Check.isFalse("too much changes the buffer", drive.truncateInput(901));
        Check.isTrue("881 bytes", drive.truncateInput(881));
        Check.equal("901 bytes", appendBlanks(drive), -1);
        Check.isFalse("901 bytes change the buffer", drive.truncateInput(882));
        Check.isTrue("880 bytes", drive.truncateInput(880));
        Check.equal("just 900 bytes", appendBlanks(drive), 900);
    }

    private static void appendsTheMostSignificantByteFirst() {
        PlanetDrive drive = new PlanetDrive();
        Check.equal("body", drive.appendInput(0x626f6479, 0x20612070, 0x6572696f, 0x64203132, 0x33343b20), 20);
        Check.equal("slack", drive.appendInput(0x736c6163, 0x6b20373b, BLANKS, BLANKS, BLANKS), 40);
        Check.equal("loads", drive.loadDrive(), 1);
        Check.equal("period", drive.body(0, 0), 1234);
        Check.equal("slack", drive.count(3), 7);
        // Bytes from 128 up are bytes too, and belong to no token.
        drive.appendInput(BLANKS, BLANKS, 0x2020e920, 0x80808080, -1);
        Check.equal("no token", drive.loadDrive(), -1);
        Check.equal("no token", drive.errorCode(), PlanetDrive.SYNTAX);
        Check.equal("no token", drive.errorOffset(), 10);
    }

    private static void truncates() {
        PlanetDrive drive = new PlanetDrive();
        appendBlanks(drive);
        Check.isFalse("below 0", drive.truncateInput(-1));
        Check.isFalse("far below 0", drive.truncateInput(Integer.MIN_VALUE));
        Check.isFalse("above the length", drive.truncateInput(21));
        Check.isFalse("far above the length", drive.truncateInput(Integer.MAX_VALUE));
        Check.isTrue("the length itself", drive.truncateInput(20));
        Check.isTrue("shorter", drive.truncateInput(7));
        Check.isFalse("what was cut off", drive.truncateInput(8));
        Check.equal("appends behind the cut", appendBlanks(drive), 27);
        Check.isTrue("to nothing", drive.truncateInput(0));
        Check.equal("appends to nothing", appendBlanks(drive), 20);
        Check.isTrue("to nothing again", drive.truncateInput(0));
        Check.type(drive, "body a period 100; body b");
        drive.truncateInput(18);
        Check.equal("what was cut off is not read", drive.loadDrive(), 1);
    }

    private static void loadsBodiesAndEmptiesTheBuffer() {
        PlanetDrive drive = new PlanetDrive();
        Check.equal("nothing", drive.loadDrive(), 0);
        Check.equal("blanks", Check.load(drive, " \n "), 0);
        Check.equal("one body", Check.load(drive, "body a period 100;"), 1);
        Check.isFalse("is emptied", drive.truncateInput(1));
        Check.equal("eight bodies", Check.load(drive, EIGHT), 8);
        Check.equal("an error", Check.load(drive, "body a;"), -1);
        Check.isFalse("is emptied by an error too", drive.truncateInput(1));
        Check.equal("nothing after an error", drive.loadDrive(), 0);
        Check.equal("bodies", drive.count(0), 0);
    }

    private static void loadReplacesEverything() {
        PlanetDrive drive = Check.driveOf("stock 8 9;start 1900;slack 5;body a period 100;body b period 200 on a;"
                + "train a gear 8 9 idler 10;");
        drive.crank(100);
        drive.crank(50);
        Check.equal("lag before", drive.lag(0), 15);
        drive.saveState();
        Check.equal("loads", Check.load(drive, "body c period 300 retro; body d period 400;"), 2);
        int[] due = {2, 0, 2000, 60, 0, 0, 0};
        for (int what = 0; what < due.length; what++) {
            Check.equal("count " + what, drive.count(what), due[what]);
        }
        Check.equal("period", drive.body(0, 0), 300);
        Check.equal("retro", drive.body(0, 1), 1);
        Check.equal("carrier", drive.body(1, 2), -1);
        Check.equal("parts", drive.body(0, 3), 0);
        Check.equal("lag", drive.lag(0), 0);
        Check.equal("undo", drive.undo(), -1);
        Check.refuses("a saved state", STATE, drive::restoreState);
    }

    private static void eachTextIsReadByItself() {
        PlanetDrive drive = new PlanetDrive();
        String text = "stock 8 9;start 1900;slack 5;body a period 100;train a gear 8 9;";
        for (int n = 0; n < 3; n++) {
            Check.equal("loads once more", Check.load(drive, text), 1);
            Check.equal("fails once more", Check.load(drive, text + text), -1);
            Check.equal("by its second stock", drive.errorOffset(), text.length());
        }
        Check.equal("start", drive.count(2), 1900);
        Check.equal("loads nothing", Check.load(drive, ""), 0);
        Check.equal("start then", drive.count(2), 2000);
        Check.equal("stock then", drive.count(1), 0);
    }

    private static void readsToTheEndOfTheText() {
        PlanetDrive drive = new PlanetDrive();
        String[] texts = {"slack 12;", "slack;", "body abc period 100;"};
        int[] lengths = {7, 3, 7};
        int[] offsets = {7, 0, 7};
        for (int n = 0; n < texts.length; n++) {
            Check.type(drive, texts[n]);
            drive.truncateInput(lengths[n]);
            Check.equal("cut off: " + texts[n], drive.loadDrive(), -1);
            Check.equal("offset of the cut: " + texts[n], drive.errorOffset(), offsets[n]);
        }
        for (String end : new String[] {"slack", "slack 1", "slack 1;", "slack 1 ", "slack 1;;", "slack 1\n", "slack 12345678"}) {
            Check.load(drive, " ".repeat(900 - end.length()) + end);
            int due = end.equals("slack 1;") ? -1 : end.endsWith(";;") ? 899 : end.endsWith("8") ? 892 : 900;
            Check.equal("offset of 900 bytes with " + end, drive.errorOffset(), due);
        }
        Check.equal("a full buffer of one letter", Check.load(drive, "a".repeat(900)), -1);
        Check.equal("its offset", drive.errorOffset(), 0);
        Check.equal("a full buffer of one statement after the other", Check.load(drive, "slack 1;".repeat(112)), -1);
        Check.equal("its offset", drive.errorOffset(), 8);
    }

    private static void errorChangesNothing() {
        PlanetDrive drive = Check.driveOf("stock 8 9;start 1900;slack 5;body a period 100;train a gear 8 9 idler 10;");
        drive.crank(100);
        drive.saveState();
        drive.crank(50);
        drive.report(1900);
        Check.equal("fails", Check.load(drive, "stock 20;slack 7;start 2000;body b period 300;x"), -1);
        int[] due = {1, 2, 1900, 5, 50, 2, 27};
        for (int what = 0; what < due.length; what++) {
            Check.equal("count " + what, drive.count(what), due[what]);
        }
        Check.equal("stock", drive.stock(0), 8);
        Check.equal("period", drive.body(0, 0), 100);
        Check.equal("lag", drive.lag(0), 15);
        Check.equal("output", drive.outputByte(0), 'a');
        Check.equal("undo", drive.undo(), 1);
        Check.equal("saved", drive.restoreState(), 100);
    }

    private static void tellsTheLatestLoad() {
        PlanetDrive drive = new PlanetDrive();
        Check.load(drive, "slack;");
        Check.equal("code of an error", drive.errorCode(), PlanetDrive.SYNTAX);
        Check.equal("offset of an error", drive.errorOffset(), 5);
        Check.type(drive, "body a");
        Check.equal("typing is no load", drive.errorCode(), PlanetDrive.SYNTAX);
        drive.loadDrive();
        Check.equal("offset of the next error", drive.errorOffset(), 6);
        Check.load(drive, "slack 1;");
        Check.equal("code of a success", drive.errorCode(), PlanetDrive.NO_ERROR);
        Check.equal("offset of a success", drive.errorOffset(), -1);
    }

    private static void takesAllThatTheFormAllows() {
        takes("stock 8;", 0);
        takes("stock " + SIXTEEN + ";", 0);
        takes("stock 100 8;", 0);
        takes("start 1600;slack 0;", 0);
        takes("start 2400;slack 999;", 0);
        takes("slack0;start2000;", 0);
        takes("\n slack\n0000007 ;\n", 0);
        takes("body abcdefgh period 100;", 1);
        takes("body a period 9999999 retro;", 1);
        takes("body a period 100;body b period 100 retro on a;body c period 100 on a;", 3);
        takes("body gears period 100;body sto period 100;body o period 100;", 3);
        takes("body a period 100;train a gear 8 100 ring 100 8 idler 8 idler 100;", 1);
        takes("body a period 100;train a idler 8 idler 8 idler 8 idler 8;", 1);
        takes("body a period 100;train a idler 8;body b period 100;train b gear 8 8;slack 1;stock 9;start 1999;", 2);
        takes(EIGHT, 8);
        PlanetDrive drive = Check.driveOf("stock 30 8 100 9;start 1600;slack 999;");
        Check.equal("stock", drive.stock(3), 100);
        Check.equal("start", drive.count(2), 1600);
        Check.equal("slack", drive.count(3), 999);
    }

    private static void findsSyntaxErrors() {
        int code = PlanetDrive.SYNTAX;
        String[] firstWords = {"x;", "8;", ";", "period 100;", "gear 8 8;", "Stock 8;", "\tstock 8;", "stocks 8;"};
        for (String text : firstWords) {
            fails(text, code, 0);
        }
        fails("slack 1;;", code, 8);
        fails("slack 1 2;", code, 8);
        fails("stock;", code, 5);
        fails("stock a;", code, 6);
        fails("stock 8 a;", code, 8);
        fails("stock 8", code, 7);
        fails("stock 8 \n ", code, 10);
        fails("stock 8,9;", code, 7);
        fails("stock -8;", code, 6);
        fails("stock 8 00000009;", code, 8);
        fails("start", code, 5);
        fails("start start;", code, 6);
        fails("slack 12345678;", code, 6);
        fails("body", code, 4);
        fails("body ;", code, 5);
        fails("body 7 period 100;", code, 5);
        fails("body abcdefghi period 100;", code, 5);
        for (String word : "stock start slack body period retro on train gear ring idler".split(" ")) {
            fails("body " + word + " period 100;", code, 5);
            fails("body a period 100 on " + word + ";", code, 21);
            fails("train " + word + " idler 8;", code, 6);
        }
        fails("body a 100;", code, 7);
        fails("body a period;", code, 13);
        fails("body a period retro;", code, 14);
        fails("body a period 100 retro retro;", code, 24);
        fails("body a period 100 on;", code, 20);
        fails("body a period 100;body b period 100 on a retro;", code, 41);
        fails("body a period 100 x;", code, 18);
        fails("body a period 10000000;", code, 14);
        fails("body a period 100", code, 17);
        fails("train", code, 5);
        fails("train ;", code, 6);
        fails("body a period 100;train a ;", code, 26);
        fails("body a period 100;train a gear ;", code, 31);
        fails("body a period 100;train a gear 8 ;", code, 33);
        fails("body a ;", code, 7);
        fails("start ;", code, 6);
        fails("slack ;", code, 6);
        fails("body a period 100;train a;", code, 25);
        fails("body a period 100;train a 8 8;", code, 26);
        fails("body a period 100;train a gear 8;", code, 32);
        fails("body a period 100;train a ring 8 idler 8;", code, 33);
        fails("body a period 100;train a idler 8 8;", code, 34);
        fails("body a period 100;train a idler;", code, 31);
        fails("body a period 100;train a idler 8 x;", code, 34);
        fails("body a period 100;train a gear 8 8", code, 34);
    }

    private static void findsNumbersOutOfRange() {
        int code = PlanetDrive.OUT_OF_RANGE;
        fails("stock 7;", code, 6);
        fails("stock 8 101;", code, 8);
        fails("stock 0;", code, 6);
        fails("start 1599;", code, 6);
        fails("start 2401;", code, 6);
        fails("slack 1000;", code, 6);
        fails("slack 9999999;", code, 6);
        fails("body a period 99;", code, 14);
        String body = "body a period 100;";
        fails(body + "train a gear 7 8;", code, 31);
        fails(body + "train a gear 8 101;", code, 33);
        fails(body + "train a ring 101 8;", code, 31);
        fails(body + "train a ring 8 7;", code, 33);
        fails(body + "train a idler 7;", code, 32);
        fails(body + "train a idler 101;", code, 32);
    }

    private static void findsBadNames() {
        int code = PlanetDrive.BAD_NAME;
        String body = "body a period 100;";
        fails(body + "body a period 100;", code, 23);
        fails(body + "body b period 100 on c;", code, 39);
        fails("body a period 100 on a;", code, 21);
        fails(body + "body b period 100 on a;body c period 100 on b;", code, 62);
        fails("train a idler 8;", code, 6);
        fails("train a idler 8;" + body, code, 6);
        fails(body + "train b idler 8;", code, 24);
        fails(body + "train aa idler 8;", code, 24);
    }

    private static void findsMisplacedWords() {
        int code = PlanetDrive.MISPLACED;
        fails(EIGHT + "body i period 100;", code, EIGHT.length());
        fails(EIGHT + " body a x", code, EIGHT.length() + 1);
        fails("stock 8; stock 9;", code, 9);
        fails("start 2000;start 2000;", code, 11);
        fails("slack 1;slack 1;", code, 8);
        String body = "body a period 100;";
        fails(body + "train a idler 8;train a idler 8;", code, 40);
        fails("stock " + SIXTEEN + " 24;", code, 7 + SIXTEEN.length());
        fails("stock 8 9 8;", code, 10);
        fails(body + "train a gear 8 8 ring 8 8 gear 8 8;", code, 44);
        fails(body + "train a ring 8 8 gear 8 8 ring 8 8;", code, 44);
        fails(body + "train a gear 8 8 idler 8 gear 8 8 ring 8 8;", code, 52);
        fails(body + "train a idler 8 idler 8 idler 8 idler 8 idler 8;", code, 58);
        fails(body + "train a idler 8 idler 8 idler 8 idler 8 gear 8 8;", code, 58);
    }

    private static void reportsTheFirstErrorWithTheSmallestCode() {
        fails("stock " + SIXTEEN + " 7;", PlanetDrive.OUT_OF_RANGE, 7 + SIXTEEN.length());
        fails("stock " + SIXTEEN + " x;", PlanetDrive.SYNTAX, 7 + SIXTEEN.length());
        fails("stock 8 7 8 x;", PlanetDrive.OUT_OF_RANGE, 8);
        fails("slack 1000 x", PlanetDrive.OUT_OF_RANGE, 6);
        fails("slack 1;slack", PlanetDrive.MISPLACED, 8);
        fails("body a period 99;body a;", PlanetDrive.OUT_OF_RANGE, 14);
        fails("body a period 100;body a;", PlanetDrive.BAD_NAME, 23);
    }

    private static void takes(String text, int bodies) {
        PlanetDrive drive = new PlanetDrive();
        Check.equal("loads " + text, Check.load(drive, text), bodies);
        Check.equal("code of " + text, drive.errorCode(), PlanetDrive.NO_ERROR);
        Check.equal("offset of " + text, drive.errorOffset(), -1);
    }

    private static void fails(String text, int code, int offset) {
        PlanetDrive drive = new PlanetDrive();
        Check.type(drive, text.getBytes(StandardCharsets.ISO_8859_1), 0);
        Check.equal("fails " + text, drive.loadDrive(), -1);
        Check.equal("code of " + text, drive.errorCode(), code);
        Check.equal("offset of " + text, drive.errorOffset(), offset);
        Check.equal("bodies after " + text, drive.count(0), 0);
    }
}
