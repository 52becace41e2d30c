import java.util.List;

/** Promises 51 to 57: a test of its own for each sentence that names a boundary case. */
public final class BoundaryRecords extends TestKit {
    private static final String NO_MEMBER = "Throws `IndexOutOfBoundsException` if there is no such member";
    private static final String NOTHING_DIFFERS = "A successful call is a change even if nothing differs afterwards.";
    private static final String LATEST_EIGHT = "The latest 8 changes can be undone, the latest one first.";
    private static final String NEITHER = "The command text, the error position, the failed command, and the line are neither undone nor saved.";
    private static final String ALL_ELSE = "Everything else is.";
    /** One change of each kind, each of which the union takes when it has taken those before it. */
    private static final Use[] CHANGES = {
        x -> x.addMember(9, 20),
        x -> x.setWind(6, 7),
        x -> x.payIn(999),
        x -> x.passShifts(3),
        x -> x.vote(3, false),
        x -> run(x, "vote 0+;vote 1+;vote 2+"),
        x -> x.callStrike(),
        x -> x.signUp(0, 3),
        x -> x.signUp(0, 1),
        x -> x.signUp(0, 2),
        x -> x.passShifts(2),
        x -> x.strikeOff(1),
        x -> x.makeOffer(40),
        x -> x.accept(3),
        x -> x.makeOffer(50),
        x -> x.accept(0),
        x -> x.accept(2),
        x -> x.accept(1),
        x -> x.passShifts(1),
    };

    public static void main(String[] args) {
        describeMember();
        describeZeroes();
        describeLetters();
        describeReplaces();
        lineAt();
        meanLostDays();
        isConsistent();
        undoAnswers();
        undoOfEachChange();
        undoOfManyChanges();
        changesThatDifferNothing();
        callsThatAreNoChanges();
        latestEight();
        neitherUndone();
        undoRefuses();
        saveAnswers();
        saveAndRestoreEach();
        restoreKeeps();
        restoreForgetsChanges();
        restoreRefuses();
        neitherSaved();
        finish("BoundaryRecords");
    }

    /** Three members, and the first so many of the changes. */
    private static VaneUnion changed(int count) {
        VaneUnion x = members(3);
        for (int i = 0; i < count; i++) {
            CHANGES[i].of(x);
        }
        return x;
    }

    private static void describeMember() {
        sentence(51, "An example is \"m3@7c 120+8-4!\".", () -> {
            VaneUnion x = new VaneUnion();
            for (int member = 0; member < 4; member++) {
                x.addMember(7, 20);
            }
            x.setWind(2, 1);
            x.passShifts(6);
            x.payIn(32);
            strike(x);
            x.passShifts(4);
            eq("m3@7c 120+8-4", describe(x, 3));
            x.signUp(0, 3);
            eq(14, x.describeMember(3));
            eq("m3@7c 120+8-4!", line(x, 14));
            settle(x, 1);
            eq("m3@7c 120+8-4", describe(x, 3));
        });
        sentence(51, "\"m\" and the number, \"@\" and the roof", () -> {
            VaneUnion x = members(12);
            eq("m0@0a 0", describe(x, 0));
            eq("m9@9a 0", describe(x, 9));
            eq("m10@0a 0", describe(x, 10));
            eq("m11@1a 0", describe(x, 11));
        });
        noSuchMember(51, NO_MEMBER, (x, member) -> x.describeMember(member));
        sentence(51, NO_MEMBER, () -> refusedFor(INDEX, () -> {
            VaneUnion x = members(2);
            x.describeMember(1);
            return x;
        }, (x, member) -> x.describeMember(member), 2, -1));
    }

    private static void describeZeroes() {
        sentence(51, "\"+\" and the support if it is not 0", () -> {
            VaneUnion x = withFund(2, 3);
            strike(x);
            eq("m0@0a 0", describe(x, 0));
            x.passShifts(1);
            eq("m0@0a 0+2-1", describe(x, 0));
            eq("m1@1a 0-1", describe(x, 1));
        });
        sentence(51, "\"-\" and the number of lost shifts if it is not 0", () -> {
            VaneUnion x = onStrike(1);
            eq("m0@0a 0", describe(x, 0));
            x.passShifts(1);
            eq("m0@0a 0-1", describe(x, 0));
            x.passShifts(9);
            eq("m0@0a 0-10", describe(x, 0));
            settle(x, 1);
            eq("m0@0a 0-10", describe(x, 0));
        });
        sentence(51, "and \"!\" if the member is on a picket list", () -> {
            VaneUnion x = onStrike(2);
            x.signUp(0, 0);
            eq("m0@0a 0!", describe(x, 0));
            eq("m1@1a 0", describe(x, 1));
            x.signUp(9, 1);
            eq("m1@1a 0!", describe(x, 1));
            x.strikeOff(0);
            eq("m0@0a 0", describe(x, 0));
        });
    }

    private static void describeLetters() {
        sentence(51, "The letters of the bearings 0 to 7 are a to h.", () -> {
            VaneUnion x = members(1);
            eq("m0@0a 0", describe(x, 0));
            for (int bearing = 7; bearing >= 0; bearing--) {
                x.setWind(bearing, 0);
                x.passShifts(1);
                eq("m0@0" + "abcdefgh".charAt(bearing) + " 0", describe(x, 0));
            }
        });
    }

    private static void describeReplaces() {
        sentence(51, "Writes a member to the line, replacing its previous content", () -> {
            VaneUnion x = onStrike(2);
            x.passShifts(10);
            eq(10, x.describeMember(0));
            x.addMember(3, 4);
            eq(7, x.describeMember(2));
            eq("m2@3a 0", wholeLine(x));
            eq(7, x.describeMember(2));
            eq("m2@3a 0", wholeLine(x));
            eq(10, x.describeMember(1));
            eq("m1@1a 0-10", wholeLine(x));
        });
        sentence(51, "Returns the length of the line.", () -> {
            eq(7, members(12).describeMember(0));
            eq(8, members(12).describeMember(11));
        });
    }

    private static void lineAt() {
        sentence(52, "The line is initially empty.", () -> {
            refused(INDEX, () -> new VaneUnion(), x -> x.lineAt(0));
            refused(INDEX, () -> members(12), x -> x.lineAt(0));
        });
        sentence(52, "Returns a character of the line.", () -> {
            VaneUnion x = members(3);
            x.describeMember(2);
            eq('m', x.lineAt(0));
            eq('2', x.lineAt(1));
            eq('@', x.lineAt(2));
            eq('a', x.lineAt(4));
            eq(' ', x.lineAt(5));
            eq('0', x.lineAt(6));
        });
        sentence(52, "Throws `IndexOutOfBoundsException` if there is no such index", () -> {
            NumberUse use = (x, index) -> x.lineAt(index);
            refusedFor(INDEX, () -> new VaneUnion(), use, -1, 0, 1, LEAST, MOST);
            refusedFor(INDEX, () -> {
                VaneUnion x = members(3);
                x.describeMember(2);
                return x;
            }, use, -1, 7, 8, LEAST, MOST);
            refusedFor(INDEX, () -> {
                VaneUnion x = members(12);
                x.describeMember(11);
                x.describeMember(1);
                return x;
            }, use, 7);
        });
    }

    private static void meanLostDays() {
        sentence(53, "the number of shifts that all members have lost divided by 3 times the number of members, both converted to double", () -> {
            eq(0.0, members(12).meanLostDays());
            for (int members = 1; members <= 12; members++) {
                VaneUnion x = onStrike(members);
                for (int shifts = 1; shifts <= 12; shifts++) {
                    x.passShifts(1);
                    eq((double) (shifts * members) / (double) (3 * members), x.meanLostDays());
                }
            }
            // Unions that grow after the strike's first shifts: a quotient of another shape is rounded another way.
            VaneUnion few = onStrike(1);
            few.passShifts(1);
            for (int members = 2; members <= 12; members++) {
                few.addMember(0, 1);
                eq(1.0 / (3 * members), few.meanLostDays());
            }
            VaneUnion many = onStrike(5);
            many.passShifts(11);
            for (int members = 6; members <= 12; members++) {
                many.addMember(0, 1);
                eq(55.0 / (3 * members), many.meanLostDays());
            }
        });
        sentence(53, "Throws `ArithmeticException` if there are no members", () -> {
            refused(ARITHMETIC, () -> new VaneUnion(), x -> x.meanLostDays());
            VaneUnion x = members(1);
            x.undo();
            refuses(ARITHMETIC, () -> x.meanLostDays());
        });
    }

    private static void isConsistent() {
        sentence(54, "and, if there are members, fundedShifts() equals fundedShiftsByPaying().", () -> {
            VaneUnion x = new VaneUnion();
            eq(true, x.isConsistent());
            fill(x, 9999);
            eq(true, x.isConsistent());
            for (int count = 1; count <= 12; count++) {
                x.addMember(count % 10, 1);
                eq(true, x.isConsistent());
            }
        });
        sentence(54, "stepsToWind() equals stepsToWindByTurning() for all members", () -> {
            for (int bearing = 0; bearing < 8; bearing++) {
                VaneUnion x = members(1);
                x.setWind(bearing, 0);
                x.passShifts(1);
                x.addMember(0, 1);
                for (int direction = 0; direction < 8; direction++) {
                    x.setWind(direction, 12);
                    eq(true, x.isConsistent());
                }
            }
        });
        sentence(54, "lostTotal() equals lostTotalByRoofs()", () -> {
            VaneUnion x = onStrike(12);
            x.passShifts(30);
            eq(true, x.isConsistent());
            x.undo();
            eq(true, x.isConsistent());
        });
    }

    private static void undoAnswers() {
        sentence(55, "Returns the number of changes that can still be undone.", () -> {
            for (int changes = 1; changes <= 10; changes++) {
                VaneUnion x = withFund(0, 0);
                for (int i = 0; i < changes; i++) {
                    x.payIn(1);
                }
                for (int left = Math.min(changes, 8) - 1; left >= 0; left--) {
                    eq(left, x.undo());
                }
                refuses(STATE, () -> x.undo());
            }
        });
        sentence(55, "Undoes the latest change that has not been undone.", () -> {
            VaneUnion x = new VaneUnion();
            x.payIn(1);
            x.payIn(10);
            x.payIn(100);
            eq(2, x.undo());
            eq(11, x.fund());
            eq(1, x.undo());
            eq(1, x.fund());
            x.payIn(500);
            eq(1, x.undo());
            eq(1, x.fund());
            eq(0, x.undo());
            eq(0, x.fund());
            refuses(STATE, () -> x.undo());
            x.payIn(7);
            eq(0, x.undo());
        });
    }

    private static void undoOfEachChange() {
        sentence(55, "A change is a successful call of addMember, setWind, passShifts, vote, callStrike, payIn, signUp, "
                + "strikeOff, makeOffer, accept or run.", () -> {
            for (int count = 0; count < CHANGES.length; count++) {
                VaneUnion x = changed(count);
                x.save();
                x.restore();
                refuses(STATE, () -> x.undo());
                CHANGES[count].of(x);
                eq(0, x.undo());
                same(stateOf(changed(count)), stateOf(x));
            }
        });
        sentence(55, ALL_ELSE, () -> {
            VaneUnion x = withOffer(3, 10);
            x.accept(1);
            x.accept(2);
            eq(1, x.settlementCount());
            x.undo();
            refuses(STATE, () -> x.accept(1));
            eq(true, x.accept(2));
            x.undo();
            x.undo();
            eq(false, x.accept(1));
            VaneUnion y = members(1);
            y.vote(0, true);
            eq(1, y.callStrike());
            y.undo();
            eq(1, y.callStrike());
            y.passShifts(2);
            y.undo();
            eq(0, y.strikeShifts());
        });
    }

    private static void undoOfManyChanges() {
        sentence(55, LATEST_EIGHT, () -> {
            for (int count = 8; count <= CHANGES.length; count++) {
                for (int undone = 1; undone <= 8; undone++) {
                    VaneUnion x = changed(count);
                    for (int i = 1; i <= undone; i++) {
                        eq(8 - i, x.undo());
                    }
                    same(stateOf(changed(count - undone)), stateOf(x));
                }
            }
        });
    }

    private static void changesThatDifferNothing() {
        sentence(55, NOTHING_DIFFERS, () -> {
            Use[] changes = {
                x -> x.setWind(0, 0), x -> run(x, "wind 0 0"), x -> x.vote(0, true), x -> run(x, "vote 0+;vote 0+"),
            };
            for (Use change : changes) {
                VaneUnion x = members(1);
                x.vote(0, true);
                change.of(x);
                eq(2, x.undo());
                eq(1, x.votesFor());
                eq(1, x.undo());
                eq(0, x.votesFor());
            }
            VaneUnion x = withOffer(1, 10);
            x.save();
            x.restore();
            x.makeOffer(10);
            x.makeOffer(10);
            eq(1, x.undo());
            eq(0, x.undo());
            eq(10, x.offerPercent());
        });
    }

    private static void callsThatAreNoChanges() {
        sentence(55, "A change is a successful call", () -> {
            VaneUnion x = members(2);
            for (int i = 0; i < 6; i++) {
                x.payIn(1);
            }
            x.save();
            x.describeMember(0);
            x.append('x');
            stateOf(x);
            x.isConsistent();
            refuses(ARGUMENT, () -> x.run());
            write(x, "pay 1;pay 1;strike");
            refuses(STATE, () -> x.run());
            refuses(ARGUMENT, () -> x.payIn(0));
            refuses(INDEX, () -> x.addMember(10, 1));
            refuses(ARGUMENT, () -> x.setWind(8, 0));
            refuses(ARGUMENT, () -> x.passShifts(0));
            refuses(INDEX, () -> x.vote(2, true));
            refuses(UNSUPPORTED, () -> x.callStrike());
            refuses(STATE, () -> x.signUp(0, 0));
            refuses(ELEMENT, () -> x.strikeOff(0));
            refuses(STATE, () -> x.makeOffer(1));
            refuses(ELEMENT, () -> x.accept(0));
            for (int left = 7; left >= 0; left--) {
                eq(left, x.undo());
                eq(Math.max(left - 2, 0), x.fund());
                eq(Math.min(left, 2), x.memberCount());
            }
            refuses(STATE, () -> x.undo());
        });
    }

    private static void latestEight() {
        sentence(55, "The latest 8 changes can be undone", () -> {
            for (int extra = 0; extra <= 20; extra++) {
                VaneUnion x = new VaneUnion();
                for (int i = 0; i < 8 + extra; i++) {
                    x.payIn(1);
                }
                write(x, "pay 1;strike");
                refuses(STATE, () -> x.run());
                for (int left = 7; left >= 0; left--) {
                    eq(left, x.undo());
                    eq(left + extra, x.fund());
                }
                refuses(STATE, () -> x.undo());
                eq(extra, x.fund());
            }
            VaneUnion x = new VaneUnion();
            for (int round = 1; round <= 12; round++) {
                for (int i = 0; i < 8; i++) {
                    x.payIn(1);
                }
                eq(7, x.undo());
                eq(6, x.undo());
                x.payIn(1);
                eq(6, x.undo());
                eq(6 * round, x.fund());
            }
        });
    }

    private static VaneUnion withTexts() {
        VaneUnion x = members(1);
        write(x, "pay");
        refuses(ARGUMENT, () -> x.run());
        write(x, "pay 1;pay 0");
        refuses(STATE, () -> x.run());
        x.describeMember(0);
        x.save();
        x.payIn(3);
        strike(x);
        x.passShifts(3);
        write(x, "pay 1;pay 1;x");
        refuses(ARGUMENT, () -> x.run());
        write(x, "pay 1;pay 1;pay 0");
        refuses(STATE, () -> x.run());
        x.describeMember(0);
        write(x, "pay 6");
        return x;
    }

    private static void checkTexts(VaneUnion x) {
        eq(12, x.errorPosition());
        eq(2, x.failedCommand());
        eq("m0@0a 0+2-3", wholeLine(x));
        eq(6, x.append('5'));
        eq(1, x.run());
        eq(65, x.fund());
    }

    private static void neitherUndone() {
        sentence(55, NEITHER, () -> {
            VaneUnion x = withTexts();
            for (int left = 4; left >= 0; left--) {
                eq(left, x.undo());
            }
            eq(0, x.memberCount());
            checkTexts(x);
        });
    }

    private static void undoRefuses() {
        sentence(55, "Throws `IllegalStateException` if there is no change to undo", () -> {
            refused(STATE, () -> new VaneUnion(), x -> x.undo());
            refused(STATE, () -> {
                VaneUnion x = new VaneUnion();
                x.payIn(5);
                x.undo();
                return x;
            }, x -> x.undo());
            refused(STATE, () -> {
                VaneUnion x = members(12);
                for (int i = 0; i < 8; i++) {
                    x.undo();
                }
                return x;
            }, x -> x.undo());
            refused(STATE, () -> {
                VaneUnion x = members(3);
                x.save();
                x.restore();
                return x;
            }, x -> x.undo());
            VaneUnion x = members(12);
            for (int i = 0; i < 8; i++) {
                x.undo();
            }
            refuses(STATE, () -> x.undo());
            eq(4, x.memberCount());
        });
    }

    private static void saveAnswers() {
        sentence(56, "Returns the number of members.", () -> {
            eq(0, new VaneUnion().save());
            eq(1, members(1).save());
            eq(12, members(12).save());
        });
        sentence(56, "replacing an earlier snapshot", () -> {
            VaneUnion x = members(2);
            eq(2, x.save());
            x.addMember(5, 5);
            x.payIn(5);
            eq(3, x.save());
            x.addMember(5, 5);
            x.payIn(5);
            eq(3, x.restore());
            eq(3, x.memberCount());
            eq(5, x.fund());
            VaneUnion emptied = members(3);
            emptied.save();
            emptied.undo();
            emptied.undo();
            emptied.undo();
            eq(0, emptied.save());
            emptied.addMember(1, 1);
            eq(0, emptied.restore());
            refuses(INDEX, () -> emptied.roofOf(0));
        });
        sentence(56, "Saves everything that changes can change as the snapshot", () -> {
            VaneUnion x = members(2);
            x.save();
            // Neither a later change nor its undoing reaches into the snapshot, and saving undoes nothing.
            x.payIn(5);
            x.vote(0, true);
            eq(3, x.undo());
            eq(2, x.undo());
            eq(1, x.undo());
            x.payIn(9);
            eq(2, x.restore());
            eq(0, x.fund());
            eq(0, x.votesFor());
        });
    }

    private static void saveAndRestoreEach() {
        sentence(57, ALL_ELSE, () -> {
            for (int count = 0; count <= CHANGES.length; count++) {
                VaneUnion x = changed(count);
                List<String> saved = stateOf(x);
                x.save();
                if (count < CHANGES.length) {
                    CHANGES[count].of(x);
                }
                x.payIn(77);
                x.setWind(3, 9);
                x.passShifts(30);
                x.restore();
                same(saved, stateOf(x));
                if (count < CHANGES.length) {
                    CHANGES[count].of(x);
                    same(stateOf(changed(count + 1)), stateOf(x));
                }
            }
        });
        sentence(57, "Restores the snapshot", () -> {
            VaneUnion x = withOffer(3, 10);
            x.accept(1);
            x.save();
            x.accept(2);
            strike(x);
            eq(3, x.restore());
            refuses(STATE, () -> x.accept(1));
            eq(1, x.acceptances());
            eq(true, x.accept(0));
            x.vote(0, true);
            x.vote(1, true);
            eq(2, x.callStrike());
            VaneUnion other = members(3);
            other.save();
            other.undo();
            other.addMember(7, 20);
            eq(3, other.restore());
            eq(2, other.roofOf(2));
            eq(3, other.rateOf(2));
            eq(1, other.membersOn(2));
            eq(0, other.membersOn(7));
        });
    }

    private static void restoreKeeps() {
        sentence(57, "Restores the snapshot, which is kept.", () -> {
            VaneUnion x = withFund(3, 5);
            x.save();
            for (int round = 0; round < 5; round++) {
                x.payIn(round + 1);
                x.addMember(0, 1);
                x.setWind(round + 1, 1);
                x.passShifts(1);
                eq(3, x.restore());
                eq(3, x.memberCount());
                eq(5, x.fund());
                eq(0, x.windDirection());
                eq(0, x.bearingOf(0));
            }
            eq(3, x.restore());
        });
        sentence(57, "Returns the number of members.", () -> {
            VaneUnion x = new VaneUnion();
            x.save();
            x.addMember(0, 1);
            eq(0, x.restore());
            VaneUnion full = members(12);
            full.save();
            full.undo();
            eq(12, full.restore());
            eq(1, full.roofOf(11));
        });
    }

    private static void restoreForgetsChanges() {
        sentence(57, "After the call no change can be undone.", () -> {
            VaneUnion x = members(12);
            x.save();
            x.restore();
            refuses(STATE, () -> x.undo());
            eq(12, x.memberCount());
            for (int i = 1; i <= 9; i++) {
                x.payIn(1);
            }
            for (int left = 7; left >= 0; left--) {
                eq(left, x.undo());
                eq(left + 1, x.fund());
            }
            refuses(STATE, () -> x.undo());
            x.payIn(1);
            x.restore();
            refuses(STATE, () -> x.undo());
            VaneUnion y = new VaneUnion();
            y.save();
            y.payIn(1);
            y.restore();
            y.payIn(2);
            eq(0, y.undo());
            eq(0, y.fund());
        });
    }

    private static void restoreRefuses() {
        sentence(57, "Throws `IllegalStateException` if there is no snapshot", () -> {
            refused(STATE, () -> new VaneUnion(), x -> x.restore());
            refused(STATE, () -> changed(9), x -> x.restore());
            VaneUnion x = new VaneUnion();
            refuses(STATE, () -> x.restore());
            x.save();
            eq(0, x.restore());
        });
    }

    private static void neitherSaved() {
        sentence(57, NEITHER, () -> {
            VaneUnion x = withTexts();
            eq(1, x.restore());
            eq(0, x.fund());
            checkTexts(x);
        });
        sentence(57, "the line", () -> {
            VaneUnion x = members(2);
            x.save();
            x.describeMember(1);
            x.restore();
            eq("m1@1a 0", wholeLine(x));
        });
    }
}
