/** Promises 22 to 31: a test of its own for each sentence that names a boundary case. */
public final class BoundaryStrikes extends TestKit {
    private static final String NO_MEMBER = "Throws `IndexOutOfBoundsException` if there is no such member";
    private static final String A_STRIKE = "Throws `IllegalStateException` if there is a strike";
    private static final String FIRST_LISTED = "If several exceptions apply, the exception listed first is thrown.";
    private static final String NO_MEMBERS = "Throws `ArithmeticException` if there are no members";

    public static void main(String[] args) {
        vote();
        voteRefuses();
        votesFor();
        hasVoted();
        callStrike();
        majority();
        majorityOfGrownUnion();
        callStrikeRefuses();
        isOnStrike();
        strikeShifts();
        payInTakes();
        payInRefuses();
        fund();
        fundedShifts(30, x -> x.fundedShifts());
        fundedShifts(31, x -> x.fundedShiftsByPaying());
        fundedShiftsByPaying();
        finish("BoundaryStrikes");
    }

    /** Members with so many votes for a strike, the others' against it. */
    private static VaneUnion withVotes(int members, int votesFor) {
        VaneUnion x = members(members);
        for (int member = 0; member < members; member++) {
            x.vote(member, member < votesFor);
        }
        return x;
    }

    private static void vote() {
        sentence(22, "An earlier vote of the member is replaced.", () -> {
            VaneUnion x = members(2);
            eq(1, x.vote(0, true));
            eq(1, x.vote(0, true));
            eq(2, x.vote(1, true));
            eq(1, x.vote(0, false));
            eq(1, x.vote(0, false));
            eq(0, x.vote(1, false));
            eq(1, x.vote(0, true));
            eq(1, x.votesFor());
        });
        sentence(22, "Returns the number of votes for a strike after the call.", () -> {
            VaneUnion x = members(12);
            for (int member = 0; member < 12; member++) {
                eq(member, x.vote(member, false));
                eq(member + 1, x.vote(member, true));
            }
        });
        sentence(22, "Each member has at most one vote for or against a strike.", () -> {
            VaneUnion x = members(3);
            x.vote(0, true);
            x.vote(0, true);
            x.vote(0, true);
            eq(1, x.votesFor());
            refuses(UNSUPPORTED, () -> x.callStrike());
        });
    }

    private static void voteRefuses() {
        noSuchMember(22, NO_MEMBER, (x, member) -> x.vote(member, true));
        noSuchMember(22, NO_MEMBER, (x, member) -> x.vote(member, false));
        sentence(22, A_STRIKE, () -> {
            refused(STATE, () -> onStrike(3), x -> x.vote(0, true), x -> x.vote(2, true), x -> x.vote(0, false));
            VaneUnion x = onStrike(3);
            x.addMember(0, 1);
            refuses(STATE, () -> x.vote(3, true));
            settle(x, 1);
            eq(1, x.vote(3, true));
        });
        sentence(22, FIRST_LISTED, () -> {
            refused(INDEX, () -> onStrike(3), x -> x.vote(3, true), x -> x.vote(-1, false));
        });
    }

    private static void votesFor() {
        sentence(23, "Returns the number of votes for a strike.", () -> {
            eq(0, new VaneUnion().votesFor());
            eq(0, members(3).votesFor());
            eq(0, withVotes(12, 0).votesFor());
            eq(5, withVotes(12, 5).votesFor());
            eq(12, withVotes(12, 12).votesFor());
        });
    }

    private static void hasVoted() {
        sentence(24, "Returns whether a member has voted.", () -> {
            VaneUnion x = members(12);
            eq(false, x.hasVoted(0));
            x.vote(11, false);
            eq(true, x.hasVoted(11));
            eq(false, x.hasVoted(10));
            x.vote(0, true);
            eq(true, x.hasVoted(0));
            x.undo();
            eq(false, x.hasVoted(0));
        });
        noSuchMember(24, NO_MEMBER, (x, member) -> x.hasVoted(member));
    }

    private static void callStrike() {
        sentence(25, "All votes are removed.", () -> {
            VaneUnion x = withVotes(4, 3);
            x.callStrike();
            eq(0, x.votesFor());
            for (int member = 0; member < 4; member++) {
                eq(false, x.hasVoted(member));
            }
            settle(x, 1);
            eq(0, x.votesFor());
            eq(false, x.hasVoted(3));
            refuses(UNSUPPORTED, () -> x.callStrike());
            eq(1, x.vote(0, true));
        });
        sentence(25, "Returns the number of strikes called so far, with this one.", () -> {
            VaneUnion x = members(1);
            for (int strikes = 1; strikes <= 5; strikes++) {
                x.vote(0, true);
                eq(strikes, x.callStrike());
                x.undo();
                eq(strikes, x.callStrike());
                settle(x, 1);
            }
        });
    }

    private static void majority() {
        sentence(25, "Throws `UnsupportedOperationException` if twice the number of votes for a strike is not greater than the number of members", () -> {
            for (int members = 0; members <= 12; members++) {
                int count = members;
                for (int votes = 0; votes <= count; votes++) {
                    int votesFor = votes;
                    if (votes <= count / 2) {
                        refused(UNSUPPORTED, () -> withVotes(count, votesFor), x -> x.callStrike());
                    } else {
                        eq(1, withVotes(count, votesFor).callStrike());
                    }
                }
            }
        });
    }

    private static void majorityOfGrownUnion() {
        sentence(25, "the number of members", () -> {
            VaneUnion x = withVotes(3, 2);
            x.addMember(0, 1);
            refuses(UNSUPPORTED, () -> x.callStrike());
            x.undo();
            eq(1, x.callStrike());
            // Who has not voted counts as a member too.
            VaneUnion silent = members(4);
            silent.vote(0, true);
            silent.vote(1, true);
            refuses(UNSUPPORTED, () -> silent.callStrike());
            silent.vote(2, true);
            eq(1, silent.callStrike());
        });
    }

    private static void callStrikeRefuses() {
        sentence(25, A_STRIKE, () -> {
            refused(STATE, () -> onStrike(1), x -> x.callStrike());
            refused(STATE, () -> withOffer(12, 50), x -> x.callStrike());
        });
        sentence(25, FIRST_LISTED, () -> {
            // In a strike there are no votes, so that both exceptions apply.
            VaneUnion x = onStrike(3);
            eq(0, x.votesFor());
            refuses(STATE, () -> x.callStrike());
        });
        sentence(25, "There is at most one strike at a time", () -> {
            VaneUnion x = onStrike(1);
            refuses(STATE, () -> x.callStrike());
            settle(x, 1);
            x.vote(0, true);
            eq(2, x.callStrike());
            refuses(STATE, () -> x.callStrike());
        });
    }

    private static void isOnStrike() {
        sentence(26, "Returns whether there is a strike.", () -> {
            VaneUnion x = withVotes(3, 3);
            eq(false, x.isOnStrike());
            x.callStrike();
            eq(true, x.isOnStrike());
            x.undo();
            eq(false, x.isOnStrike());
            x.callStrike();
            x.passShifts(30);
            x.makeOffer(50);
            x.accept(2);
            eq(true, x.isOnStrike());
            x.accept(0);
            eq(false, x.isOnStrike());
            x.undo();
            eq(true, x.isOnStrike());
        });
    }

    private static void strikeShifts() {
        sentence(27, "Returns the number of shifts that have passed in the present strike.", () -> {
            VaneUnion x = members(1);
            x.passShifts(30);
            strike(x);
            eq(0, x.strikeShifts());
            x.passShifts(1);
            eq(1, x.strikeShifts());
            x.passShifts(30);
            eq(31, x.strikeShifts());
            settle(x, 1);
            x.passShifts(2);
            strike(x);
            eq(0, x.strikeShifts());
            x.passShifts(30);
            eq(30, x.strikeShifts());
        });
        sentence(27, "Throws `IllegalStateException` if there is no strike", () -> {
            refused(STATE, () -> new VaneUnion(), x -> x.strikeShifts());
            refused(STATE, () -> withVotes(3, 3), x -> x.strikeShifts());
            refused(STATE, () -> {
                VaneUnion x = onStrike(2);
                x.passShifts(4);
                settle(x, 1);
                return x;
            }, x -> x.strikeShifts());
        });
    }

    private static void payInTakes() {
        sentence(28, "`coins`: the number of coins, 1 to 999", () -> {
            VaneUnion x = new VaneUnion();
            eq(1, x.payIn(1));
            eq(3, x.payIn(2));
            eq(1001, x.payIn(998));
            eq(2000, x.payIn(999));
        });
        sentence(28, "The fund has from 0 to 9999 coins, initially 0.", () -> {
            VaneUnion x = withFund(0, 9990);
            eq(9999, x.payIn(9));
            VaneUnion one = withFund(0, 9998);
            eq(9999, one.payIn(1));
            VaneUnion most = withFund(0, 9000);
            eq(9999, most.payIn(999));
        });
    }

    private static void payInRefuses() {
        sentence(28, "Throws `IllegalArgumentException` if the number is not from 1 to 999", () -> {
            NumberUse use = (x, coins) -> x.payIn(coins);
            refusedFor(ARGUMENT, () -> new VaneUnion(), use, 0, 1000, -1, 9999, 10000, LEAST, MOST);
            refusedFor(ARGUMENT, () -> withFund(3, 500), use, 0, 1000, -1, -500, LEAST, MOST);
        });
        sentence(28, "Throws `IllegalStateException` if the fund would have more than 9999 coins", () -> {
            refused(STATE, () -> withFund(0, 9999), x -> x.payIn(1), x -> x.payIn(999));
            refused(STATE, () -> withFund(0, 9998), x -> x.payIn(2));
            refused(STATE, () -> withFund(0, 9001), x -> x.payIn(999));
            VaneUnion x = withFund(1, 9999);
            strike(x);
            x.passShifts(1);
            refuses(STATE, () -> x.payIn(3));
            eq(9999, x.payIn(2));
        });
        sentence(28, FIRST_LISTED, () -> {
            refused(ARGUMENT, () -> withFund(0, 9999), x -> x.payIn(0), x -> x.payIn(1000), x -> x.payIn(MOST));
        });
    }

    private static void fund() {
        sentence(29, "The fund has from 0 to 9999 coins, initially 0.", () -> {
            VaneUnion x = new VaneUnion();
            eq(0, x.fund());
            fill(x, 9999);
            eq(9999, x.fund());
            refuses(STATE, () -> x.payIn(1));
            eq(9999, x.fund());
            VaneUnion spent = withFund(12, 24);
            strike(spent);
            spent.passShifts(30);
            eq(0, spent.fund());
            spent.payIn(1);
            spent.passShifts(30);
            eq(1, spent.fund());
        });
    }

    private static void fundedShifts(int promiseOfQuery, Use query) {
        String saying = promiseOfQuery == 30
                ? "Returns for how many shifts of a strike the fund would suffice to support all members, by a division."
                : "Returns the same number as fundedShifts(), found by paying support from a copy of the fund shift by shift.";
        sentence(promiseOfQuery, saying, () -> {
            for (int members : new int[] {1, 2, 7, 12}) {
                int shift = 2 * members;
                for (int shifts = 1; shifts <= 3; shifts++) {
                    eq(shifts - 1, query.of(withFund(members, shifts * shift - 1)));
                    eq(shifts, query.of(withFund(members, shifts * shift)));
                    eq(shifts, query.of(withFund(members, shifts * shift + 1)));
                }
                eq(0, query.of(members(members)));
            }
            eq(0, query.of(withFund(12, 1)));
            eq(4999, query.of(withFund(1, 9999)));
            eq(4999, query.of(withFund(1, 9998)));
            eq(416, query.of(withFund(12, 9999)));
        });
        sentence(promiseOfQuery, NO_MEMBERS, () -> {
            refused(ARITHMETIC, () -> new VaneUnion(), query);
            refused(ARITHMETIC, () -> withFund(0, 9999), query);
            VaneUnion x = members(1);
            x.undo();
            refuses(ARITHMETIC, () -> query.of(x));
        });
    }

    private static void fundedShiftsByPaying() {
        sentence(31, "found by paying support from a copy of the fund shift by shift", () -> {
            VaneUnion x = withFund(2, 9);
            eq(2, x.fundedShiftsByPaying());
            eq(9, x.fund());
            eq(0, x.supportOf(0));
            strike(x);
            x.passShifts(1);
            eq(1, x.fundedShiftsByPaying());
            eq(5, x.fund());
            eq(2, x.supportOf(0));
        });
    }
}
