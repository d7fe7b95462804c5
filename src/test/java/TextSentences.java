import java.util.function.Supplier;

/** The sentences about the input buffer and the setup text: promises 1 to 6 and the description. */
final class TextSentences {
    private static final int DESCRIPTION = Sentence.DESCRIPTION;
    private static final int SYNTAX = PlanetDrive.SYNTAX;
    private static final int OUT_OF_RANGE = PlanetDrive.OUT_OF_RANGE;
    private static final int BAD_NAME = PlanetDrive.BAD_NAME;
    private static final int MISPLACED = PlanetDrive.MISPLACED;

    private static final int BLANKS = 0x20202020;
    private static final int[] FAR_LENGTHS = {-1, Integer.MIN_VALUE, 901, Integer.MAX_VALUE};
    private static final String FIFTEEN = "stock 8 9 10 11 12 13 14 15 16 17 18 19 20 21 22";
    private static final String SIXTEEN = FIFTEEN + " 100";
    private static final String BODY = "body a period 100;";
    private static final String EIGHT = "body a period 100;body b period 100;body c period 100;body d period 100;"
            + "body e period 100;body f period 100;body g period 100;body h period 100;";
    private static final String[] RESERVED = {
        "stock", "start", "slack", "body", "period", "retro", "on", "train", "gear", "ring", "idler"};

    private TextSentences() {
    }

    static void all() {
        newObject();
        appending();
        truncating();
        loading();
        latestLoad();
        statements();
        numbersOfStatements();
        limitsOfCounts();
        names();
        tokens();
        firstError();
        codes();
        errorsChangeNothing();
        successReplacesEverything();
    }

    // ---- what the texts below are tried with ----

    private static PlanetDrive takes(String text, int bodies) {
        PlanetDrive drive = new PlanetDrive();
        Check.equal("bodies of " + text, Check.load(drive, text), bodies);
        Check.equal("code of " + text, drive.errorCode(), PlanetDrive.NO_ERROR);
        Check.equal("offset of " + text, drive.errorOffset(), -1);
        return drive;
    }

    /** A "^" in the text, which is left out of it, stands in front of the byte with the error. */
    private static void fails(int code, String marked) {
        int offset = marked.indexOf('^');
        String text = marked.substring(0, offset) + marked.substring(offset + 1);
        PlanetDrive drive = new PlanetDrive();
        Check.equal("fails: " + text, Check.load(drive, text), -1);
        Check.equal("code of " + text, drive.errorCode(), code);
        Check.equal("offset of " + text, drive.errorOffset(), offset);
    }

    private static int appendBlanks(PlanetDrive drive) {
        return drive.appendInput(BLANKS, BLANKS, BLANKS, BLANKS, BLANKS);
    }

    private static PlanetDrive withLength(int length) {
        PlanetDrive drive = new PlanetDrive();
        Check.type(drive, " ".repeat(length));
        return drive;
    }

    // ---- promises 1 to 6 ----

    private static void newObject() {
        Sentence.of(1, "Creates a drive without bodies and stock, with the default values of the text, with an empty"
                + " input buffer.").holds(() -> {
            PlanetDrive drive = new PlanetDrive();
            Check.equal("all of it", Twins.standing(drive), "counts 0 0 2000 60 0 0 0, stock");
            Check.equal("no output", drive.outputByte(0), -1);
            Check.equal("no error", drive.errorCode(), PlanetDrive.NO_ERROR);
            Check.equal("no offset", drive.errorOffset(), -1);
            Check.equal("nothing to undo", drive.undo(), -1);
            Check.refuses("nothing saved", Refusal.STATE, drive::restoreState);
            Check.isFalse("not one byte typed", drive.truncateInput(1));
            Check.equal("the first 20 bytes", appendBlanks(drive), 20);
        });
        Sentence.of(DESCRIPTION, "An object is used for at most 512 calls after it has been made").holds(() -> {
            PlanetDrive drive = new PlanetDrive();
            for (int n = 1; n < 512; n++) {
                drive.crank(n);
            }
            Check.equal("the 512th call", drive.crank(0), 511);
        });
    }

    private static void appending() {
        Sentence.of(2, "Appends 20 bytes to the input buffer: the four bytes of each parameter, the most significant"
                + " byte first.", "- `a`: first four bytes", "- `b`: next four bytes", "- `c`: next four bytes",
                "- `d`: next four bytes", "- `e`: last four bytes").holds(() -> {
            // One byte of the 20 belongs to no token: the error tells where it went.
            for (int at = 0; at < 20; at++) {
                for (int sign : new int[] {0, 1, 127, 128, 255}) {
                    int[] words = {BLANKS, BLANKS, BLANKS, BLANKS, BLANKS};
                    int shift = 24 - at % 4 * 8;
                    words[at / 4] = words[at / 4] & ~(255 << shift) | sign << shift;
                    PlanetDrive drive = new PlanetDrive();
                    drive.appendInput(words[0], words[1], words[2], words[3], words[4]);
                    Check.equal("load with byte " + sign + " at " + at, drive.loadDrive(), -1);
                    Check.equal("offset of byte " + sign + " at " + at, drive.errorOffset(), at);
                }
            }
            for (int value : new int[] {Integer.MIN_VALUE, Integer.MAX_VALUE, -1, 0, 1}) {
                Check.equal("any int", new PlanetDrive().appendInput(value, value, value, value, value), 20);
            }
        });
        Sentence.of(2, "Returns the new length of the input buffer; -1, with no change, if it would exceed 900.")
                .holds(() -> {
                    for (int length : new int[] {0, 1, 19, 20, 860, 879, 880}) {
                        Check.equal("behind " + length, appendBlanks(withLength(length)), length + 20);
                    }
                    for (int length : new int[] {881, 890, 899, 900}) {
                        Check.equal("behind " + length, appendBlanks(withLength(length)), -1);
                        Twins.unchanged("a piece behind " + length, () -> withLength(length),
                                TextSentences::appendBlanks);
                    }
                    Twins.unchanged("a piece behind a full buffer", Drives::full,
                            drive -> drive.appendInput(-1, -1, -1, -1, -1));
                });
        Sentence.of(DESCRIPTION, "The input buffer holds at most 900 bytes.").holds(() -> {
            String end = "slack 7;";
            Check.equal("the last byte counts", takes(" ".repeat(900 - end.length()) + end, 0).count(3), 7);
            fails(SYNTAX, " ".repeat(893) + "slack 7^");
            fails(SYNTAX, " ".repeat(899) + "^?");
            fails(SYNTAX, "^" + "a".repeat(900));
            takes(" ".repeat(900), 0);
        });
    }

    private static void truncating() {
        Sentence.of(3, "Returns true; false, with no change, if length is negative or greater than the current"
                + " length.").holds(() -> {
            for (int length : new int[] {0, 1, 20, 899, 900}) {
                for (int taken : new int[] {0, length / 2, length}) {
                    PlanetDrive drive = withLength(length);
                    Check.isTrue("from " + length + " to " + taken, drive.truncateInput(taken));
                    Check.isFalse("no longer " + (taken + 1), drive.truncateInput(taken + 1));
                    Check.isTrue("still " + taken, drive.truncateInput(taken));
                }
                Check.isFalse("one above " + length, withLength(length).truncateInput(length + 1));
                Twins.unchanged("one above " + length, () -> withLength(length),
                        drive -> drive.truncateInput(length + 1));
                for (int wrong : FAR_LENGTHS) {
                    Check.isFalse("from " + length + " to " + wrong, withLength(length).truncateInput(wrong));
                    Twins.unchanged("from " + length + " to " + wrong, () -> withLength(length),
                            drive -> drive.truncateInput(wrong));
                }
            }
        });
        Sentence.of(3, "Truncates the input buffer.").holds(() -> {
            PlanetDrive drive = new PlanetDrive();
            Check.type(drive, "slack 7;slack 8;");
            Check.isTrue("cuts off the second statement", drive.truncateInput(8));
            Check.equal("what comes then stands behind the cut", appendBlanks(drive), 28);
            Check.equal("loads", drive.loadDrive(), 0);
            Check.equal("slack", drive.count(3), 7);
        });
    }

    private static void loading() {
        Sentence.of(4, "Loads a drive from the input buffer and empties the buffer, whether the load succeeds or"
                + " not.").holds(() -> {
            for (String text : new String[] {"", BODY, "slack;", " ".repeat(900), "?".repeat(900)}) {
                PlanetDrive drive = new PlanetDrive();
                Check.load(drive, text);
                Check.isFalse("a byte is left of " + text, drive.truncateInput(1));
                Check.equal("the first bytes behind " + text, appendBlanks(drive), 20);
                Check.equal("nothing of it is loaded once more", drive.loadDrive(), 0);
            }
        });
        Sentence.of(4, "Returns the number of bodies; -1 if there is an error.").holds(() -> {
            for (int bodies = 0; bodies <= 8; bodies++) {
                takes(EIGHT.substring(0, bodies * BODY.length()), bodies);
            }
            Check.equal("an error in front of all bodies", Check.load(new PlanetDrive(), "?" + EIGHT), -1);
            Check.equal("an error behind all bodies", Check.load(new PlanetDrive(), EIGHT + "?"), -1);
        });
    }

    private static void latestLoad() {
        Sentence.of(5, "Returns an error code; NO_ERROR if that call succeeded or there was no call.",
                "Returns the error code of the latest call of loadDrive.").holds(() -> {
            PlanetDrive drive = new PlanetDrive();
            Check.equal("no call", drive.errorCode(), PlanetDrive.NO_ERROR);
            String[] texts = {"?", "slack 1000;", "train a idler 8;", "slack 1;slack 1;"};
            for (int code = SYNTAX; code <= MISPLACED; code++) {
                Check.load(drive, texts[code - 1]);
                Check.equal("an error", drive.errorCode(), code);
                Check.type(drive, "start");
                Check.equal("typing is no load", drive.errorCode(), code);
                drive.truncateInput(0);
                Check.equal("asking is no load", drive.errorCode(), code);
                Check.load(drive, BODY);
                Check.equal("success", drive.errorCode(), PlanetDrive.NO_ERROR);
            }
        });
        Sentence.of(6, "Returns the offset; -1 if errorCode() is NO_ERROR.",
                "Returns the offset of the error of the latest call of loadDrive.").holds(() -> {
            PlanetDrive drive = new PlanetDrive();
            Check.equal("no call", drive.errorOffset(), -1);
            String[] texts = {"?", "slack 1000;", "train a idler 8;", "slack 1;slack 1;", "slack 1;  "};
            int[] offsets = {0, 6, 6, 8, -1};
            for (int n = 0; n < texts.length; n++) {
                Check.load(drive, texts[n]);
                Check.equal("offset of " + texts[n], drive.errorOffset(), offsets[n]);
            }
            Check.load(drive, "slack");
            drive.crank(5);
            drive.undo();
            drive.saveState();
            drive.restoreState();
            Check.equal("restoring is no load", drive.errorOffset(), 5);
        });
        Sentence.of(DESCRIPTION, "- `NO_ERROR = 0`: No error.",
                "- `SYNTAX = 1`: Error code: the text does not follow the form.",
                "- `OUT_OF_RANGE = 2`: Error code: a number is out of range.",
                "- `BAD_NAME = 3`: Error code: a name that is taken or unknown.",
                "- `MISPLACED = 4`: Error code: something that cannot stand there.").holds(() -> {
            int[] codes = {PlanetDrive.NO_ERROR, SYNTAX, OUT_OF_RANGE, BAD_NAME, MISPLACED};
            for (int code = 0; code < codes.length; code++) {
                Check.equal("constant", codes[code], code);
            }
        });
    }

    // ---- the setup text ----

    private static void statements() {
        Sentence.of(DESCRIPTION, "The text is a sequence of statements, each followed by a semicolon.").holds(() -> {
            takes("", 0);
            takes("slack 1;", 0);
            fails(SYNTAX, "slack 1^");
            fails(SYNTAX, "slack 1 ^start 2000;");
            fails(SYNTAX, "^;");
            fails(SYNTAX, "slack 1;^;");
            fails(SYNTAX, "body a period 100^");
            fails(SYNTAX, "stock 8^");
            fails(SYNTAX, BODY + "train a idler 8^");
            fails(SYNTAX, BODY + "train a gear 8 8^");
        });
        Sentence.of(DESCRIPTION, "N stands for a number, NAME for a name, brackets for an optional part, braces for"
                + " any number of repetitions, and | separates alternatives:").holds(() -> {
            takes("body a period 100;body b period 100 retro;body c period 100 on a;body d period 100 retro on a;", 4);
            takes("stock 8;" + BODY + "train a gear 8 8;", 1);
            takes("stock 8 9;" + BODY + "train a ring 8 8 idler 8;", 1);
        });
        Sentence.of(DESCRIPTION, "The statements stock, start and slack may each occur once, and train once for each"
                + " body.").holds(() -> {
            takes("slack 1;" + BODY + "start 2001;train a idler 8;stock 9;body b period 100;train b idler 8;", 2);
            for (String statement : new String[] {"stock 8;", "start 2000;", "slack 1;"}) {
                takes(statement, 0);
                fails(MISPLACED, statement + "^" + statement);
                fails(MISPLACED, statement + BODY + "^" + statement);
            }
            fails(MISPLACED, BODY + "train a idler 8;train ^a idler 8;");
            fails(MISPLACED, EIGHT + "train a idler 8;train h idler 8;train ^a idler 8;");
        });
    }

    private static void numbersOfStatements() {
        Sentence.of(DESCRIPTION, "numbers of teeth of gears in the stock, each 8 to 100, at most 16, each once")
                .holds(() -> {
                    takes("stock 8;", 0);
                    takes("stock 100;", 0);
                    fails(OUT_OF_RANGE, "stock ^7;");
                    fails(OUT_OF_RANGE, "stock ^101;");
                    fails(OUT_OF_RANGE, "stock 8 ^7;");
                    fails(OUT_OF_RANGE, "stock 8 100 ^101;");
                    fails(OUT_OF_RANGE, "stock ^0;");
                    fails(OUT_OF_RANGE, "stock ^9999999;");
                    fails(SYNTAX, "stock^;");
                    Check.equal("15 numbers", takes(FIFTEEN + ";", 0).count(1), 15);
                    Check.equal("16 numbers", takes(SIXTEEN + ";", 0).count(1), 16);
                    fails(MISPLACED, SIXTEEN + " ^99;");
                    fails(MISPLACED, "stock 8 ^8;");
                    fails(MISPLACED, "stock 100 8 50 ^100;");
                    fails(MISPLACED, "stock 8 ^0000008;");
                });
        Sentence.of(DESCRIPTION, "the year at whose first day the drive starts, 1600 to 2400; 2000 without it")
                .holds(() -> {
                    Check.equal("the first", takes("start 1600;", 0).count(2), 1600);
                    Check.equal("the last", takes("start 2400;", 0).count(2), 2400);
                    Check.equal("without it", takes(BODY, 1).count(2), 2000);
                    fails(OUT_OF_RANGE, "start ^1599;");
                    fails(OUT_OF_RANGE, "start ^2401;");
                    fails(OUT_OF_RANGE, "start ^0;");
                    fails(OUT_OF_RANGE, "start ^9999999;");
                });
        Sentence.of(DESCRIPTION, "the backlash of each mesh in arcseconds, 0 to 999; 60 without it").holds(() -> {
            Check.equal("the first", takes("slack 0;", 0).count(3), 0);
            Check.equal("the last", takes("slack 999;", 0).count(3), 999);
            Check.equal("without it", takes(BODY, 1).count(3), 60);
            fails(OUT_OF_RANGE, "slack ^1000;");
            fails(OUT_OF_RANGE, "slack ^9999999;");
        });
        Sentence.of(DESCRIPTION, "a body with its period in hundredths of a day (100 to 9999999); \"retro\" if it goes"
                + " round backward; \"on\" an earlier body, the carrier, which is on none itself",
                "body NAME period N [retro] [on NAME]").holds(() -> {
            Check.equal("the first", takes("body a period 100;", 1).body(0, 0), 100);
            Check.equal("the last", takes("body a period 9999999;", 1).body(0, 0), 9999999);
            fails(OUT_OF_RANGE, "body a period ^99;");
            fails(OUT_OF_RANGE, "body a period ^0;");
            fails(SYNTAX, "body a period ^10000000;");
            Check.equal("retro", takes("body a period 100 retro;", 1).body(0, 1), 1);
            Check.equal("not retro", takes("body a period 100;", 1).body(0, 1), 0);
            Check.equal("carrier", takes(BODY + "body b period 100 on a;", 2).body(1, 2), 0);
            takes(EIGHT.substring(0, 7 * BODY.length()) + "body h period 100 on g;", 8);
            fails(BAD_NAME, "body a period 100 on ^a;");
            fails(BAD_NAME, "body b period 100 on ^a;" + BODY);
            fails(BAD_NAME, BODY + "body b period 100 on a;body c period 100 on ^b;");
            fails(SYNTAX, BODY + "body b period 100 on a ^retro;");
            fails(SYNTAX, "body a period 100 retro ^retro;");
            fails(SYNTAX, BODY + "body b period 100 on a ^on a;");
        });
        Sentence.of(DESCRIPTION, "the train of an earlier body, where PART is: gear N N | ring N N | idler N (numbers"
                + " of teeth, 8 to 100 each)").holds(() -> {
            for (String kind : new String[] {"gear", "ring"}) {
                takes(BODY + "train a " + kind + " 8 100;", 1);
                takes(BODY + "train a " + kind + " 100 8;", 1);
                for (String wrong : new String[] {"7", "101", "0", "9999999"}) {
                    fails(OUT_OF_RANGE, BODY + "train a " + kind + " ^" + wrong + " 8;");
                    fails(OUT_OF_RANGE, BODY + "train a " + kind + " 8 ^" + wrong + ";");
                }
                fails(SYNTAX, BODY + "train a " + kind + " 8^;");
                fails(SYNTAX, BODY + "train a " + kind + " 8 8 ^8;");
            }
            takes(BODY + "train a idler 8 idler 100;", 1);
            fails(OUT_OF_RANGE, BODY + "train a idler ^7;");
            fails(OUT_OF_RANGE, BODY + "train a idler ^101;");
            fails(SYNTAX, BODY + "train a idler 8 ^8;");
            fails(SYNTAX, BODY + "train a^;");
            fails(SYNTAX, BODY + "train a ^x;");
            fails(BAD_NAME, "train ^a idler 8;" + BODY);
        });
    }

    private static void limitsOfCounts() {
        Sentence.of(DESCRIPTION, "There are at most 8 bodies, numbered from 0 in the order of their statements.")
                .holds(() -> {
                    PlanetDrive drive = takes("body h period 107;body g period 106;body f period 105;"
                            + "body e period 104;body d period 103;body c period 102;body b period 101;"
                            + "body a period 100;", 8);
                    for (int body = 0; body < 8; body++) {
                        Check.equal("period of " + body, drive.body(body, 0), 107 - body);
                    }
                    fails(MISPLACED, EIGHT + "^body i period 100;");
                });
        Sentence.of(DESCRIPTION, "A train has at most 2 parts gear or ring together, and at most 4 parts in all.")
                .holds(() -> {
                    String train = BODY + "train a";
                    takes(train + " gear 8 8 gear 8 8;", 1);
                    takes(train + " ring 8 8 ring 8 8;", 1);
                    takes(train + " idler 8 gear 8 8 idler 8 ring 8 8;", 1);
                    takes(train + " idler 8 idler 8 idler 8 idler 8;", 1);
                    fails(MISPLACED, train + " gear 8 8 gear 8 8 ^gear 8 8;");
                    fails(MISPLACED, train + " ring 8 8 ring 8 8 ^ring 8 8;");
                    fails(MISPLACED, train + " gear 8 8 ring 8 8 ^gear 8 8;");
                    fails(MISPLACED, train + " gear 8 8 idler 8 ring 8 8 ^ring 8 8;");
                    fails(MISPLACED, train + " idler 8 idler 8 idler 8 idler 8 ^idler 8;");
                    fails(MISPLACED, train + " idler 8 idler 8 idler 8 idler 8 ^gear 8 8;");
                    fails(MISPLACED, train + " idler 8 idler 8 idler 8 gear 8 8 ^ring 8 8;");
                    fails(MISPLACED, train + " gear 8 8 idler 8 ring 8 8 idler 8 ^idler 8;");
                    fails(MISPLACED, train + " gear 8 8 idler 8 ring 8 8 idler 8 ^gear 8 8;");
                });
    }

    private static void names() {
        Sentence.of(DESCRIPTION, "A name is a word of 1 to 8 letters that is none of: stock, start, slack, body,"
                + " period, retro, on, train, gear, ring, idler.").holds(() -> {
            takes("body a period 100;body z period 100;", 2);
            takes("body abcdefgh period 100;body zzzzzzzz period 100 on abcdefgh;train zzzzzzzz idler 8;", 2);
            fails(SYNTAX, "body ^abcdefghi period 100;");
            fails(SYNTAX, "body ^" + "a".repeat(20) + " period 100;");
            fails(SYNTAX, "body b period 100;body a period 100 on ^abcdefghi;");
            fails(SYNTAX, "train ^abcdefghi idler 8;");
            for (String word : RESERVED) {
                fails(SYNTAX, "body ^" + word + " period 100;");
                fails(SYNTAX, BODY + "body b period 100 on ^" + word + ";");
                fails(SYNTAX, "train ^" + word + " idler 8;");
                takes("body " + word + "x period 100;body x" + word + " period 100;", 2);
                takes("body " + word.substring(1) + " period 100;", 1);
            }
            fails(SYNTAX, "body ^8 period 100;");
            fails(SYNTAX, "body ^; period 100;");
            fails(SYNTAX, "body ^;");
            fails(SYNTAX, "train ^;");
            fails(SYNTAX, "body a period 100 on ^;");
            fails(SYNTAX, "body a period ^;");
            fails(SYNTAX, "body ^A period 100;");
        });
        Sentence.of(DESCRIPTION, "Different bodies have different names.").holds(() -> {
            fails(BAD_NAME, BODY + "body ^a period 100;");
            fails(BAD_NAME, EIGHT.substring(0, 7 * BODY.length()) + "body ^g period 100;");
            takes("body a period 100;body aa period 100;body aaaaaaaa period 100;body aaaaaaa period 100;", 4);
            takes("body abcdefgh period 100;body bbcdefgh period 100;body abcdefgi period 100;", 3);
        });
    }

    private static void tokens() {
        Sentence.of(DESCRIPTION, "Tokens are words (maximal runs of the letters a to z), numbers (maximal runs of"
                + " digits, 1 to 7 of them) and semicolons.").holds(() -> {
            Check.equal("7 digits", takes("slack 0000007;", 0).count(3), 7);
            fails(SYNTAX, "slack ^00000007;");
            fails(SYNTAX, "slack ^12345678;");
            fails(SYNTAX, "stock 8 ^00000009;");
            fails(SYNTAX, BODY + "train a gear 8 ^00000008;");
            Check.equal("a word, a number", takes("slack7;start1999;stock8;", 0).count(3), 7);
            takes("body a period100retro;body b period100on a;train a gear8 9ring 8 9idler8;", 2);
            fails(SYNTAX, "^slackx 7;");
            fails(SYNTAX, "^slackslack 7;");
            fails(SYNTAX, "slack 7^x;");
            fails(SYNTAX, "body ^8a period 100;");
        });
        Sentence.of(DESCRIPTION, "Spaces (32) and line feeds (10) may stand between tokens.").holds(() -> {
            takes("  \n slack \n\n 7 \n ; \n", 0);
            takes("\nslack\n7\n;\n", 0);
            for (int sign = 0; sign < 256; sign++) {
                String text = "slack" + (char) sign + "7;";
                if (sign == ' ' || sign == '\n' || sign >= '0' && sign <= '9') {
                    takes(text, 0);
                } else if (sign >= 'a' && sign <= 'z') {
                    fails(SYNTAX, "^" + text);
                } else {
                    fails(SYNTAX, "slack^" + text.substring(5));
                }
            }
            fails(SYNTAX, "^sl ack 7;");
            fails(SYNTAX, "slack 20 ^00;");
        });
    }

    // ---- errors ----

    private static void firstError() {
        Sentence.of(DESCRIPTION, "A text is parsed from left to right, and the first error met is reported, with an"
                + " offset in bytes from 0;").holds(() -> {
            fails(SYNTAX, "^? slack 1000;");
            fails(OUT_OF_RANGE, "slack ^1000?");
            fails(OUT_OF_RANGE, "body a period ^99;body a period 100;");
            fails(BAD_NAME, BODY + "body ^a period 99;");
            fails(BAD_NAME, BODY + "train ^b idler 7;");
            fails(BAD_NAME, "body a period 100 on ^b ?");
            fails(MISPLACED, "slack 1;^slack 1000;");
            fails(MISPLACED, "slack 1;^slack");
            fails(MISPLACED, EIGHT + "^body ?");
            fails(MISPLACED, BODY + "train a idler 8;train ^a idler 7;");
            fails(MISPLACED, "stock 8 ^8 7;");
            fails(SYNTAX, "slack 1 ^1000;");
            fails(SYNTAX, "slack^;slack 1000;");
        });
        Sentence.of(DESCRIPTION, "if several errors apply to one token, the one with the smallest code:").holds(() -> {
            fails(OUT_OF_RANGE, SIXTEEN + " ^7;");
            fails(OUT_OF_RANGE, SIXTEEN + " ^101;");
            fails(SYNTAX, SIXTEEN + " ^00000008;");
            fails(SYNTAX, SIXTEEN + " ^x;");
            fails(SYNTAX, "slack ^00001000;");
            fails(SYNTAX, "body ^stock period 100;");
            fails(SYNTAX, BODY + "train a idler 8;train ^aaaaaaaaa idler 8;");
            fails(BAD_NAME, BODY + "train a idler 8;train ^aa idler 8;");
            fails(SYNTAX, BODY + "train a idler 8 idler 8 idler 8 idler 8 ^x 8;");
            fails(MISPLACED, SIXTEEN + " ^8;");
            fails(MISPLACED, BODY + "train a gear 8 8 gear 8 8 idler 8 idler 8 ^gear 8 8;");
        });
    }

    private static void codes() {
        Sentence.of(DESCRIPTION, "SYNTAX: a token that cannot stand at its place, a word that is no name where a name"
                + " is required, a number that is too long, a byte that belongs to no token, or the end of the text"
                + " where more is required.").holds(() -> {
            fails(SYNTAX, "^a;");
            fails(SYNTAX, "^8;");
            fails(SYNTAX, "^period 100;");
            fails(SYNTAX, "slack ^slack;");
            fails(SYNTAX, "body a ^a 100;");
            fails(SYNTAX, "body a ^100;");
            fails(SYNTAX, "body ^on period 100;");
            fails(SYNTAX, "slack ^00000001;");
            fails(SYNTAX, "^00000001");
            fails(SYNTAX, "^\0");
            fails(SYNTAX, "slack ^-1;");
            fails(SYNTAX, "slack 1^.5;");
            fails(SYNTAX, "slack 1;^\u00ff");
            fails(SYNTAX, "slack 1;^\t");
        });
        Sentence.of(DESCRIPTION, "The offset is that of the first byte of the token, or the length of the text.")
                .holds(() -> {
                    String[] tokens = ("body abc period 100 retro ; body d period 100 on abc ; stock 8 9 ; start 1999 ;"
                            + " slack 7 ; train d gear 8 9 idler 10 ring 11 12 ;").split(" ");
                    String text = "";
                    for (String token : tokens) {
                        text += token;
                        if (token.equals(";")) {
                            takes(text, text.contains("d period") ? 2 : 1);
                        } else {
                            fails(SYNTAX, text + "^");
                            fails(SYNTAX, text + " \n^");
                        }
                        text += " ";
                    }
                    fails(SYNTAX, "slack 7 \n ^");
                    fails(SYNTAX, " \n ^x");
                });
        Sentence.of(DESCRIPTION, "OUT_OF_RANGE: a number out of its range, at its first byte.").holds(() -> {
            fails(OUT_OF_RANGE, "slack   ^0001000  ;");
            fails(OUT_OF_RANGE, "start\n^2401");
            fails(OUT_OF_RANGE, BODY + "train a ring 8   ^101");
        });
        Sentence.of(DESCRIPTION, "BAD_NAME: the name of a new body that is taken, an unknown name, or the name of a"
                + " carrier that is on a body itself, at its first byte.").holds(() -> {
            fails(BAD_NAME, BODY + "body  ^a  period 100;");
            fails(BAD_NAME, BODY + "train  ^b  idler 8;");
            fails(BAD_NAME, BODY + "body b period 100 on  ^c ;");
            fails(BAD_NAME, BODY + "body b period 100 on a;body c period 100 on  ^b ;");
            fails(BAD_NAME, "body a period 100 on ^a");
            fails(BAD_NAME, "train ^a");
            fails(BAD_NAME, BODY + "body ^a");
        });
        Sentence.of(DESCRIPTION, "MISPLACED: a ninth body, a second stock, start or slack statement, at its first"
                + " word; the name of a body in a second train statement for it; a 17th number of a stock, or one that"
                + " it has already; the word gear or ring of a third such part, or the word of a fifth part.")
                .holds(() -> {
                    fails(MISPLACED, EIGHT + "slack 1; ^body i");
                    fails(MISPLACED, EIGHT + "^body");
                    fails(MISPLACED, "stock 8; ^stock");
                    fails(MISPLACED, "start 2000; ^start");
                    fails(MISPLACED, "slack 1; ^slack");
                    fails(MISPLACED, BODY + "train a idler 8;train  ^a");
                    fails(MISPLACED, SIXTEEN + "  ^99");
                    fails(MISPLACED, "stock 8  ^8");
                    fails(MISPLACED, BODY + "train a ring 8 8 idler 8 gear 8 8  ^ring");
                    fails(MISPLACED, BODY + "train a idler 8 idler 8 idler 8 idler 8  ^idler");
                });
    }

    private static void errorsChangeNothing() {
        String[] texts = {"?", "slack 8", "slack 1000;", "train sun idler 8;", "slack 1;slack 1;",
            "stock 8 9;start 1700;slack 1;body sun period 100;train sun gear 8 9;body x period 9999999 retro on sun;?"};
        Sentence.of(DESCRIPTION, "An error changes nothing but the input buffer and the reported error.").holds(() -> {
            for (String text : texts) {
                failsAndChangesNothing("a rich drive", text, Drives::rich);
                failsAndChangesNothing("a full drive", text, Drives::full);
                failsAndChangesNothing("a fresh drive", text, Drives::fresh);
            }
        });
    }

    private static void failsAndChangesNothing(String what, String text,
            Supplier<PlanetDrive> made) {
        Twins.unchangedButText(what + " by " + text, made, drive -> {
            drive.truncateInput(0);
            Check.equal("fails: " + text, Check.load(drive, text), -1);
            return null;
        });
    }

    private static void successReplacesEverything() {
        Sentence.of(DESCRIPTION, "A successful load replaces everything: the crank stands at day 0, all pointers are"
                + " free of lag, nothing can be undone, and no state is saved.").holds(() -> {
            String[] texts = {"", BODY, "stock 9;start 2001;slack 0;body x period 101 retro;body y period 102 on x;"
                + "train y idler 8;", EIGHT};
            for (String text : texts) {
                replaces("a rich drive", text, Drives.rich());
                replaces("a full drive", text, Drives.full());
                replaces("a fresh drive", text, Drives.fresh());
            }
        });
    }

    private static void replaces(String what, String text, PlanetDrive drive) {
        drive.truncateInput(0);
        Check.load(drive, text);
        Check.equal(what + " by " + text, Twins.standing(drive), Twins.standing(Check.driveOf(text)));
        Check.equal("the crank", drive.count(4), 0);
        for (int body = 0; body < drive.count(0); body++) {
            Check.equal("lag of " + body, drive.lag(body), 0);
        }
        Check.equal("nothing can be undone", drive.undo(), -1);
        Check.refuses("no state is saved", Refusal.STATE, drive::restoreState);
    }
}
