/** Promises 47 to 50: a test of its own for each sentence that names a boundary case. */
public final class BoundaryCommands extends TestKit {
    private static final String NOT_A_TEXT = "Throws `IllegalArgumentException` if the text is not a command text; "
            + "the error position is set and the failed command is left as it is";
    private static final String A_COMMAND_FAILS = "Throws `IllegalStateException` if a command fails; "
            + "the failed command is set and the error position is left as it is";
    private static final String FIRST_THAT_CANNOT = "The error position of a text is the index of the first character "
            + "that cannot continue any command text.";
    private static final String ALL_NONE = "Either all commands are carried out, or none.";
    private static final String[] KEYWORDS = {
        "member ", "wind ", "shift ", "vote ", "strike", "pay ", "picket ", "off ", "offer ", "accept ",
    };
    private static final String DIGITS = "0123456789";
    private static final String FIRST_LETTERS = "mwsvpoa";
    /** Ten commands and a semicolon beyond them, 60 characters in all. */
    private static final String FULL = "pay 1;pay 1;pay 1;pay 1;pay 1;pay 1;pay 1;pay 1;pay 1;pay 1;";

    public static void main(String[] args) {
        appendTakes();
        appendRefuses();
        runCounts();
        runCallsWithEdges();
        runReadsNumbers();
        runIsAllOrNone();
        runSeesEarlierCommands();
        textIsEmptyAfterRun();
        runRefusesNoText();
        runRefusesFailingCommand();
        eachExceptionFails();
        firstFailingCommand();
        positionsInKeywords();
        positionsInParameters();
        positionsBetweenCommands();
        positionAtLength();
        positionOfFullText();
        errorPosition();
        failedCommand();
        finish("BoundaryCommands");
    }

    private static VaneUnion written(VaneUnion x, String text) {
        write(x, text);
        return x;
    }

    private static void isErrorAt(int position, String text) {
        VaneUnion x = written(members(1), text);
        refuses(ARGUMENT, () -> x.run());
        eq(position, x.errorPosition());
    }

    /** After the beginning just the signs told can follow: with any other one the error is there. */
    private static void follow(String beginning, String signs) {
        for (char sign = 32; sign <= 126; sign++) {
            String text = beginning + sign;
            if (signs.indexOf(sign) < 0) {
                isErrorAt(beginning.length(), text);
            } else {
                VaneUnion x = written(members(1), text);
                boolean isUnfinished = answer(() -> x.run()).equals("IllegalArgumentException");
                eq(true, !isUnfinished || x.errorPosition() == text.length());
            }
        }
    }

    private static void appendTakes() {
        sentence(47, "The command text is a buffer of at most 60 characters.", () -> {
            VaneUnion x = new VaneUnion();
            for (int length = 1; length <= 60; length++) {
                eq(length, x.append('a'));
            }
            refuses(STATE, () -> x.append('a'));
        });
        sentence(47, "Returns the length of the command text after the call.", () -> {
            VaneUnion x = new VaneUnion();
            for (char character = 32; character <= 126; character++) {
                eq(1, x.append(character));
                eq(2, x.append(character));
                refuses(ARGUMENT, () -> x.run());
            }
        });
    }

    private static void appendRefuses() {
        sentence(47, "Throws `IllegalArgumentException` if the code of the character is not from 32 to 126", () -> {
            NumberUse use = (x, code) -> x.append((char) code);
            int[] codes = {0, 9, 10, 31, 127, 128, 160, 255, 256, 288, 32767, 32768, 65535};
            refusedFor(ARGUMENT, () -> new VaneUnion(), use, codes);
            refusedFor(ARGUMENT, () -> written(new VaneUnion(), "pay 1"), use, codes);
        });
        sentence(47, "Throws `IllegalStateException` if the command text has 60 characters", () -> {
            refused(STATE, () -> written(new VaneUnion(), FULL), x -> x.append(' '), x -> x.append('~'), x -> x.append('1'));
            VaneUnion x = written(new VaneUnion(), FULL.substring(1));
            eq(60, x.append('x'));
            refuses(STATE, () -> x.append('x'));
            refuses(ARGUMENT, () -> x.run());
            eq(1, x.append('x'));
        });
        sentence(47, "If several exceptions apply, the exception listed first is thrown.", () -> {
            refused(ARGUMENT, () -> written(new VaneUnion(), FULL), x -> x.append((char) 31), x -> x.append((char) 127),
                    x -> x.append((char) 0));
        });
    }

    private static void runCounts() {
        sentence(48, "Returns the number of commands.", () -> {
            for (int count = 1; count <= 10; count++) {
                VaneUnion x = new VaneUnion();
                eq(count, run(x, FULL.substring(0, 6 * count - 1)));
                eq(count, x.fund());
            }
            eq(7, run(members(12), "vote 0+;vote 1+;vote 2+;vote 3+;vote 4+;vote 5-;vote 11+"));
        });
        sentence(48, "braces mean zero or more repetitions", () -> {
            eq(1, run(new VaneUnion(), "pay 1"));
            eq(2, run(new VaneUnion(), "pay 1;wind 1 1"));
            eq(3, run(new VaneUnion(), "pay 1;wind 1 1;shift 1"));
        });
        sentence(48, "A call of run that carries out several commands is one change.", () -> {
            VaneUnion x = new VaneUnion();
            run(x, FULL.substring(0, 59));
            eq(0, x.undo());
            eq(0, x.fund());
            refuses(STATE, () -> x.undo());
        });
    }

    private static void runCallsWithEdges() {
        sentence(48, "with the numbers of the command as parameters in their order", () -> {
            VaneUnion x = new VaneUnion();
            eq(2, run(x, "member 0 1;member 9 20"));
            eq(0, x.roofOf(0));
            eq(1, x.rateOf(0));
            eq(9, x.roofOf(1));
            eq(20, x.rateOf(1));
            eq(1, run(x, "wind 7 12"));
            eq(7, x.windDirection());
            eq(12, x.windSpeed());
            eq(2, run(x, "shift 1;shift 30"));
            eq(31, x.shiftCount());
            eq(2, run(x, "pay 1;pay 999"));
            eq(1000, x.fund());
            eq(4, run(x, "vote 0+;vote 1+;strike;offer 50"));
            eq(50, x.offerPercent());
            eq(3, run(x, "picket 0 1;picket 9 0;offer 1"));
            checkList(x, 0, 1);
            checkList(x, 9, 0);
            eq(1, x.offerPercent());
            eq(1, run(x, "off 1"));
            eq(0, x.listLength(0));
            eq(1, run(x, "accept 1"));
            eq(1, x.acceptances());
            refuses(STATE, () -> x.accept(1));
            eq(1, run(x, "accept 0"));
            eq(1, x.settlementCount());
        });
        sentence(48, "\"+\" and \"-\" stand for votes for and against a strike.", () -> {
            VaneUnion x = members(12);
            run(x, "vote 0+;vote 11-");
            eq(1, x.votesFor());
            eq(true, x.hasVoted(11));
            run(x, "vote 0-;vote 11+;vote 5+");
            eq(2, x.votesFor());
            eq(true, x.hasVoted(0));
        });
    }

    private static void runReadsNumbers() {
        sentence(48, "number = digit [ digit ] [ digit ]", () -> {
            VaneUnion x = new VaneUnion();
            eq(5, run(x, "pay 1;pay 01;pay 001;pay 10;pay 100"));
            eq(113, x.fund());
            eq(2, run(x, "member 3 7;member 4 007"));
            eq(7, x.rateOf(1));
            eq(2, run(x, "vote 000+;vote 01+"));
            eq(2, x.votesFor());
            eq(2, run(x, "wind 2 012;shift 030"));
            eq(12, x.windSpeed());
            eq(30, x.shiftCount());
            eq(4, run(x, "strike;picket 5 001;offer 050;off 01"));
            eq(50, x.offerPercent());
            eq(1, run(x, "accept 001"));
            eq(1, x.acceptances());
            for (int digit = 0; digit < 10; digit++) {
                VaneUnion y = members(2);
                eq(1, run(y, "pay 1" + digit + digit));
                eq(100 + 11 * digit, y.fund());
            }
        });
    }

    private static VaneUnion busy() {
        VaneUnion x = members(4);
        x.setWind(2, 3);
        x.passShifts(2);
        x.payIn(50);
        strike(x);
        x.signUp(3, 2);
        x.signUp(3, 1);
        x.makeOffer(10);
        x.accept(3);
        return x;
    }

    private static void runIsAllOrNone() {
        sentence(48, ALL_NONE, () -> {
            String[] texts = {
                "member 0 1;pay 1;strike", "picket 3 0;off 2;off 1;off 3", "shift 30;wind 5 5;shift 3;pay 0",
                "accept 0;accept 1;vote 0+;strike", "accept 0;accept 1;vote 0+;vote 1+;vote 2+;strike;vote 1+",
                "offer 50;accept 1;accept 2;off 0", "strike;pay 1", "pay 999;pay 999;pay 0;pay 999",
            };
            int[] failed = {2, 3, 3, 3, 6, 3, 0, 2};
            for (int row = 0; row < texts.length; row++) {
                VaneUnion twin = busy();
                VaneUnion x = written(busy(), texts[row]);
                refuses(STATE, () -> x.run());
                int rows = stateOf(twin).size();
                same(stateOf(twin).subList(0, rows - 1), stateOf(x).subList(0, rows - 1));
                eq(failed[row], x.failedCommand());
                refuses(STATE, () -> x.accept(3));
                eq(1, x.acceptances());
                eq(twin.undo(), x.undo());
                eq(0, x.acceptances());
            }
        });
        sentence(48, "Parses the command text and carries out its commands in order.", () -> {
            VaneUnion x = busy();
            eq(4, run(x, "off 2;picket 3 2;wind 1 1;wind 5 5"));
            checkList(x, 3, 1, 2);
            eq(5, x.windDirection());
            VaneUnion unread = written(new VaneUnion(), "pay 5;pay 6;payy");
            refuses(ARGUMENT, () -> unread.run());
            eq(0, unread.fund());
            VaneUnion both = written(new VaneUnion(), "pay 0;payy");
            refuses(ARGUMENT, () -> both.run());
            refuses(ELEMENT, () -> both.failedCommand());
        });
    }

    private static void runSeesEarlierCommands() {
        sentence(48, "carries out its commands in order", () -> {
            VaneUnion x = new VaneUnion();
            eq(6, run(x, "member 3 20;vote 0+;strike;offer 50;accept 0;shift 3"));
            eq(30, x.rateOf(0));
            eq(false, x.isOnStrike());
            eq(0, x.lostShifts(0));
            VaneUnion y = written(new VaneUnion(), "vote 0+;member 3 20");
            refuses(STATE, () -> y.run());
            eq(0, y.failedCommand());
        });
    }

    private static void textIsEmptyAfterRun() {
        sentence(48, "The command text is empty after the call, also if an exception is thrown.", () -> {
            VaneUnion x = new VaneUnion();
            run(x, "pay 1");
            eq(1, x.append('p'));
            write(x, "xy");
            refuses(ARGUMENT, () -> x.run());
            eq(1, x.append('p'));
            write(x, "ay 1;strike");
            refuses(STATE, () -> x.run());
            eq(1, x.append('p'));
            write(x, "ay 2");
            eq(1, x.run());
            eq(3, x.fund());
            refuses(ARGUMENT, () -> x.run());
            eq(1, x.append('p'));
            VaneUnion full = written(new VaneUnion(), FULL);
            refuses(ARGUMENT, () -> full.run());
            eq(1, full.append(' '));
        });
    }

    private static void runRefusesNoText() {
        sentence(48, NOT_A_TEXT, () -> {
            VaneUnion x = new VaneUnion();
            refuses(ARGUMENT, () -> x.run());
            eq(0, x.errorPosition());
            refuses(ELEMENT, () -> x.failedCommand());
            write(x, "pay 1;pay 1;pay 0");
            refuses(STATE, () -> x.run());
            write(x, "pay 1;pay 0;p");
            refuses(ARGUMENT, () -> x.run());
            eq(13, x.errorPosition());
            eq(2, x.failedCommand());
        });
        sentence(48, "A method that throws an exception changes nothing, except that run clears the command text "
                + "and sets the error position or the failed command.", () -> {
            VaneUnion twin = busy();
            VaneUnion x = written(busy(), "pay 1;accept 0;x");
            refuses(ARGUMENT, () -> x.run());
            int rows = stateOf(twin).size();
            same(stateOf(twin).subList(0, rows - 1), stateOf(x).subList(0, rows - 1));
            eq(1, x.append('p'));
            for (int i = 0; i < 9; i++) {
                eq(answer(() -> twin.undo()), answer(() -> x.undo()));
                eq(twin.fund(), x.fund());
            }
        });
    }

    private static void runRefusesFailingCommand() {
        sentence(48, A_COMMAND_FAILS, () -> {
            VaneUnion x = written(new VaneUnion(), "strike");
            refuses(STATE, () -> x.run());
            eq(0, x.failedCommand());
            refuses(ELEMENT, () -> x.errorPosition());
            write(x, "pay 1;x");
            refuses(ARGUMENT, () -> x.run());
            write(x, "pay 1;pay 1;strike");
            refuses(STATE, () -> x.run());
            eq(2, x.failedCommand());
            eq(6, x.errorPosition());
        });
    }

    private static void eachExceptionFails() {
        sentence(48, "The first command whose method would throw an exception is the failed command.", () -> {
            fails(() -> members(1), "member 0 0", "member 9 21", "member 0 999", "wind 8 0", "wind 9 0", "wind 0 13",
                    "wind 0 999", "shift 0", "shift 31", "shift 999", "vote 1+", "vote 12-", "vote 999+", "strike", "pay 0",
                    "pay 000", "picket 0 0", "picket 9 1", "off 0", "off 1", "offer 1", "offer 0", "offer 51", "accept 0",
                    "accept 1");
            fails(() -> members(12), "member 0 1", "vote 12+", "strike");
            fails(() -> withFund(1, 9999), "pay 1", "pay 999");
            fails(() -> withFund(1, 9001), "pay 999");
            fails(() -> busy(), "vote 0+", "strike", "picket 0 4", "picket 3 2", "picket 4 2", "off 0", "off 4", "offer 0",
                    "offer 51", "accept 3", "accept 4");
            fails(() -> onStrike(3), "accept 0");
            fails(() -> {
                VaneUnion x = onStrike(6);
                for (int member = 0; member < 4; member++) {
                    x.signUp(9, member);
                }
                return x;
            }, "picket 9 4", "picket 9 0");
        });
    }

    /** A command that is carried out stands before the one that fails, and leaves nothing. */
    private static void fails(Ready ready, String... commands) {
        for (String command : commands) {
            VaneUnion x = written(ready.make(), "wind 5 1;" + command);
            int direction = x.windDirection();
            refuses(STATE, () -> x.run());
            eq(1, x.failedCommand());
            eq(direction, x.windDirection());
            refuses(ELEMENT, () -> x.errorPosition());
        }
    }

    private static void firstFailingCommand() {
        sentence(50, "The first command whose method would throw an exception is the failed command.", () -> {
            VaneUnion x = written(new VaneUnion(), "pay 0;pay 0;strike");
            refuses(STATE, () -> x.run());
            eq(0, x.failedCommand());
            write(x, "pay 1;strike;pay 1;pay 0");
            refuses(STATE, () -> x.run());
            eq(1, x.failedCommand());
            write(x, FULL.substring(0, 54) + "pay 0");
            refuses(STATE, () -> x.run());
            eq(9, x.failedCommand());
        });
    }

    private static void positionsInKeywords() {
        sentence(49, "Keywords are matched character by character.", () -> {
            for (String keyword : KEYWORDS) {
                for (int length = 0; length < keyword.length(); length++) {
                    String beginning = keyword.substring(0, length);
                    StringBuilder signs = new StringBuilder();
                    for (String other : KEYWORDS) {
                        if (other.startsWith(beginning)) {
                            signs.append(other.charAt(length));
                        }
                    }
                    follow(beginning, signs.toString());
                }
            }
        });
        sentence(49, FIRST_THAT_CANNOT, () -> {
            String[] texts = {"x", "Pay 1", " pay 1", "pay  1", "pay1", "payy", "strikes", "strike ", "offe 1", "off1", "offer1", "of 1", "pickt"};
            int[] positions = {0, 0, 0, 4, 3, 3, 6, 6, 4, 3, 5, 2, 4};
            for (int row = 0; row < texts.length; row++) {
                isErrorAt(positions[row], texts[row]);
                isErrorAt(positions[row] + 6, "pay 1;" + texts[row] + ";xx");
            }
        });
    }

    private static void positionsInParameters() {
        sentence(49, "command = \"member \" digit \" \" number", () -> {
            for (String keyword : new String[] {"member ", "wind ", "picket "}) {
                follow(keyword, DIGITS);
                follow(keyword + "0", " ");
                follow(keyword + "9", " ");
                follow(keyword + "1 ", DIGITS);
            }
            isErrorAt(8, "member 10 5");
            isErrorAt(5, "wind -1 5");
        });
        sentence(49, "number = digit [ digit ] [ digit ]", () -> {
            for (String keyword : new String[] {"member 1 ", "wind 1 ", "picket 1 ", "shift ", "pay ", "off ", "offer ", "accept "}) {
                follow(keyword, DIGITS);
                follow(keyword + "0", DIGITS + ";");
                follow(keyword + "12", DIGITS + ";");
                follow(keyword + "999", ";");
            }
        });
        sentence(49, "\"vote \" number ( \"+\" | \"-\" )", () -> {
            follow("vote ", DIGITS);
            follow("vote 0", DIGITS + "+-");
            follow("vote 99", DIGITS + "+-");
            follow("vote 000", "+-");
            follow("vote 0+", ";");
            follow("vote 00-", ";");
        });
    }

    private static void positionsBetweenCommands() {
        sentence(49, "text = command { \";\" command }", () -> {
            follow("", FIRST_LETTERS);
            follow("strike", ";");
            follow("strike;", FIRST_LETTERS);
            follow("pay 1;", FIRST_LETTERS);
            follow("vote 0+;off 1;", FIRST_LETTERS);
            isErrorAt(6, "pay 1;;");
            isErrorAt(0, ";pay 1");
            isErrorAt(5, "pay 1 ;pay 1");
            isErrorAt(6, "pay 1; pay 1");
        });
    }

    private static void positionAtLength() {
        sentence(49, "If every character can, the error position is the length of the text.", () -> {
            isErrorAt(0, "");
            for (String text : new String[] {"member 3 ", "wind 7 ", "shift ", "vote 123", "strike;", "pay ", "picket 0 ",
                "off ", "offer ", "accept ", "pay 1;strike;vote 1"}) {
                isErrorAt(text.length(), text);
            }
            for (String keyword : KEYWORDS) {
                for (int length = 0; length < keyword.length(); length++) {
                    isErrorAt(length, keyword.substring(0, length));
                    isErrorAt(length + 6, "pay 1;" + keyword.substring(0, length));
                }
            }
        });
    }

    private static void positionOfFullText() {
        sentence(49, "The command text is a buffer of at most 60 characters.", () -> {
            isErrorAt(60, FULL);
            isErrorAt(60, FULL.substring(0, 54) + "accept");
            isErrorAt(59, FULL.substring(0, 54) + "pay 1x");
            isErrorAt(59, FULL.substring(0, 59) + ".");
            isErrorAt(0, "x" + FULL.substring(0, 59));
            VaneUnion x = written(new VaneUnion(), FULL.substring(0, 54) + "pay 12");
            eq(10, x.run());
            eq(21, x.fund());
        });
    }

    private static void errorPosition() {
        sentence(49, "Throws `NoSuchElementException` if no error position was set", () -> {
            refused(ELEMENT, () -> new VaneUnion(), x -> x.errorPosition());
            refused(ELEMENT, () -> {
                VaneUnion x = members(2);
                run(x, "pay 5");
                write(x, "strike");
                refuses(STATE, () -> x.run());
                return x;
            }, x -> x.errorPosition());
        });
        sentence(49, "Returns the error position that was set last.", () -> {
            VaneUnion x = new VaneUnion();
            String[] texts = {"pay 1;x", "", "pay 1;pay 1;", "pay 5", "strike", "zz"};
            int[] positions = {6, 0, 12, 12, 12, 0};
            for (int row = 0; row < texts.length; row++) {
                write(x, texts[row]);
                answer(() -> x.run());
                eq(positions[row], x.errorPosition());
                eq(positions[row], x.errorPosition());
            }
        });
    }

    private static void failedCommand() {
        sentence(50, "Throws `NoSuchElementException` if no command has failed", () -> {
            refused(ELEMENT, () -> new VaneUnion(), x -> x.failedCommand());
            refused(ELEMENT, () -> {
                VaneUnion x = members(2);
                run(x, "pay 5");
                write(x, "pay 5;");
                refuses(ARGUMENT, () -> x.run());
                return x;
            }, x -> x.failedCommand());
        });
        sentence(50, "Returns the index of the failed command of the latest run in which a command failed.", () -> {
            VaneUnion x = new VaneUnion();
            String[] texts = {"pay 1;pay 0", "pay 1", "pay 1;x", "pay 1;pay 1;strike", "", "off 0"};
            int[] failed = {1, 1, 1, 2, 2, 0};
            for (int row = 0; row < texts.length; row++) {
                write(x, texts[row]);
                answer(() -> x.run());
                eq(failed[row], x.failedCommand());
                eq(failed[row], x.failedCommand());
            }
        });
        sentence(50, "Returns the index, from 0.", () -> {
            for (int index = 0; index < 10; index++) {
                VaneUnion x = written(new VaneUnion(), FULL.substring(0, 6 * index) + "pay 0");
                refuses(STATE, () -> x.run());
                eq(index, x.failedCommand());
                eq(0, x.fund());
            }
        });
    }
}
