/** Promises 1 to 13: a test of its own for each sentence that names a boundary case. */
public final class BoundaryMembers extends TestKit {
    private static final String NO_MEMBER = "Throws `IndexOutOfBoundsException` if there is no such member";
    private static final String NO_ROOF = "Throws `IndexOutOfBoundsException` if there is no such roof";

    public static void main(String[] args) {
        newObject();
        addMemberTakes();
        addMemberRefuses();
        addMemberLimit();
        memberCount();
        roofs();
        rateAndBearing();
        wagesAndSupport();
        lostShiftsAndDays();
        duties();
        ranks();
        rankRefusals();
        finish("BoundaryMembers");
    }

    private static void newObject() {
        sentence(1, "Creates a union without members, without a strike, and without coins.", () -> {
            VaneUnion x = new VaneUnion();
            eq(0, x.memberCount());
            eq(false, x.isOnStrike());
            eq(0, x.fund());
            eq(0, x.shiftCount());
            eq(0, x.votesFor());
            eq(0, x.stepTotal());
            eq(0, x.settlementCount());
            refuses(ELEMENT, () -> x.offerPercent());
            refuses(STATE, () -> x.undo());
            refuses(STATE, () -> x.restore());
            eq(1, x.append('a'));
        });
        sentence(1, "Creates a union", () -> {
            VaneUnion x = new VaneUnion();
            members(3).payIn(5);
            onStrike(1);
            eq(0, x.memberCount());
            eq(false, x.isOnStrike());
            eq(0, x.fund());
        });
        sentence(1, "The wind has a direction from 0 to 7 and a speed from 0 to 12, both initially 0.", () -> {
            eq(0, new VaneUnion().windDirection());
            eq(0, new VaneUnion().windSpeed());
        });
    }

    private static void addMemberTakes() {
        sentence(2, "Adds a member, whose bearing is 0.", () -> {
            VaneUnion x = members(1);
            x.setWind(7, 12);
            x.passShifts(1);
            eq(1, x.addMember(0, 1));
            eq(0, x.bearingOf(1));
            x.passShifts(1);
            eq(7, x.bearingOf(1));
            x.undo();
            x.undo();
            eq(1, x.addMember(0, 1));
            eq(0, x.bearingOf(1));
        });
        sentence(2, "Adds a member", () -> {
            VaneUnion x = new VaneUnion();
            x.save();
            x.addMember(4, 9);
            x.setWind(3, 1);
            x.passShifts(2);
            x.payIn(9);
            strike(x);
            x.signUp(5, 0);
            x.passShifts(1);
            x.makeOffer(1);
            x.addMember(6, 9);
            x.accept(0);
            x.restore();
            eq(0, x.addMember(8, 3));
            eq("m0@8a 0", describe(x, 0));
            eq(3, x.rateOf(0));
            eq(0, x.dutiesOf(0));
            eq(false, x.hasVoted(0));
            refuses(ELEMENT, () -> x.listOf(0));
            x.vote(0, false);
            x.restore();
            x.addMember(8, 3);
            eq(false, x.hasVoted(0));
            VaneUnion grown = withOffer(3, 5);
            grown.save();
            grown.addMember(0, 5);
            grown.accept(3);
            grown.restore();
            grown.addMember(0, 5);
            eq(0, grown.acceptances());
            eq(false, grown.accept(3));
        });
        sentence(2, "`roof`: the roof, 0 to 9", () -> {
            VaneUnion x = new VaneUnion();
            for (int roof = 0; roof < 10; roof++) {
                eq(roof, x.addMember(roof, 5));
                eq(roof, x.roofOf(roof));
            }
        });
        sentence(2, "`rate`: the rate in coins, 1 to 20", () -> {
            VaneUnion x = new VaneUnion();
            eq(0, x.addMember(0, 1));
            eq(1, x.addMember(0, 2));
            eq(2, x.addMember(0, 19));
            eq(3, x.addMember(0, 20));
            eq(1, x.rateOf(0));
            eq(2, x.rateOf(1));
            eq(19, x.rateOf(2));
            eq(20, x.rateOf(3));
        });
    }

    private static void addMemberRefuses() {
        noSuchRoof(2, NO_ROOF, (x, roof) -> x.addMember(roof, 5));
        sentence(2, "Throws `IllegalArgumentException` if the rate is not from 1 to 20", () -> {
            NumberUse use = (x, rate) -> x.addMember(9, rate);
            refusedFor(ARGUMENT, () -> new VaneUnion(), use, 0, 21, -1, 99, LEAST, MOST);
            refusedFor(ARGUMENT, () -> members(11), use, 0, 21, -1, LEAST, MOST);
            VaneUnion x = onStrike(1);
            settle(x, 50);
            refuses(ARGUMENT, () -> x.addMember(0, 21));
        });
        sentence(2, "If several exceptions apply, the exception listed first is thrown.", () -> {
            refused(INDEX, () -> members(12), x -> x.addMember(10, 0), x -> x.addMember(-1, 21), x -> x.addMember(10, 5));
            refused(INDEX, () -> members(11), x -> x.addMember(10, 0), x -> x.addMember(-1, 21));
            refused(ARGUMENT, () -> members(12), x -> x.addMember(0, 0), x -> x.addMember(9, 21));
        });
    }

    private static void addMemberLimit() {
        sentence(2, "There are at most 12 members, numbered from 0.", () -> {
            VaneUnion x = new VaneUnion();
            for (int number = 0; number < 12; number++) {
                eq(number, x.addMember(9, 20));
            }
            eq(12, x.memberCount());
            refuses(STATE, () -> x.addMember(9, 20));
            eq(12, x.memberCount());
        });
        sentence(2, "Throws `IllegalStateException` if there are 12 members", () -> {
            refused(STATE, () -> members(12), x -> x.addMember(0, 1), x -> x.addMember(9, 20));
            refused(STATE, () -> onStrike(12), x -> x.addMember(0, 1));
            VaneUnion x = members(12);
            x.undo();
            eq(11, x.addMember(3, 4));
            refuses(STATE, () -> x.addMember(3, 4));
        });
    }

    private static void memberCount() {
        sentence(3, "Returns the number of members.", () -> {
            eq(0, new VaneUnion().memberCount());
            VaneUnion x = members(12);
            eq(12, x.memberCount());
            refuses(STATE, () -> x.addMember(0, 1));
            refuses(INDEX, () -> x.addMember(10, 1));
            eq(12, x.memberCount());
            x.undo();
            eq(11, x.memberCount());
            x.save();
            x.addMember(0, 1);
            x.restore();
            eq(11, x.memberCount());
        });
    }

    private static void roofs() {
        sentence(4, "A member has a roof from 0 to 9", () -> {
            VaneUnion x = new VaneUnion();
            x.addMember(9, 1);
            x.addMember(0, 2);
            eq(9, x.roofOf(0));
            eq(0, x.roofOf(1));
            eq(1, members(12).roofOf(11));
        });
        noSuchMember(4, NO_MEMBER, (x, member) -> x.roofOf(member));
        sentence(5, "`roof`: the roof, 0 to 9", () -> {
            VaneUnion x = new VaneUnion();
            eq(0, x.membersOn(0));
            eq(0, x.membersOn(9));
            x.addMember(0, 1);
            x.addMember(9, 1);
            x.addMember(9, 1);
            eq(1, x.membersOn(0));
            eq(0, x.membersOn(1));
            eq(0, x.membersOn(8));
            eq(2, x.membersOn(9));
        });
        sentence(5, "Returns the number of members on a roof.", () -> {
            VaneUnion x = new VaneUnion();
            for (int count = 1; count <= 12; count++) {
                x.addMember(4, 1);
                eq(count, x.membersOn(4));
            }
            x.undo();
            eq(11, x.membersOn(4));
            VaneUnion listed = onStrike(2);
            listed.signUp(1, 0);
            eq(1, listed.membersOn(0));
            eq(1, listed.membersOn(1));
        });
        noSuchRoof(5, NO_ROOF, (x, roof) -> x.membersOn(roof));
    }

    private static void rateAndBearing() {
        sentence(6, "Returns the rate of a member.", () -> {
            eq(1, members(12).rateOf(0));
            eq(12, members(12).rateOf(11));
            VaneUnion x = withOffer(2, 50);
            eq(2, x.rateOf(1));
            x.accept(0);
            eq(2, x.rateOf(1));
            x.accept(1);
            eq(3, x.rateOf(1));
        });
        noSuchMember(6, NO_MEMBER, (x, member) -> x.rateOf(member));
        sentence(7, "Returns the bearing, 0 to 7.", () -> {
            VaneUnion x = members(12);
            eq(0, x.bearingOf(0));
            eq(0, x.bearingOf(11));
            for (int bearing : new int[] {7, 0, 4, 7, 1, 0}) {
                x.setWind(bearing, 1);
                x.passShifts(1);
                eq(bearing, x.bearingOf(0));
                eq(bearing, x.bearingOf(11));
            }
        });
        noSuchMember(7, NO_MEMBER, (x, member) -> x.bearingOf(member));
    }

    private static void wagesAndSupport() {
        sentence(8, "Returns the wages that a member has earned so far.", () -> {
            VaneUnion x = members(12);
            eq(0, x.wagesOf(0));
            eq(0, x.wagesOf(11));
            x.setWind(0, 1);
            x.passShifts(30);
            eq(30, x.wagesOf(0));
            eq(360, x.wagesOf(11));
            strike(x);
            x.passShifts(30);
            settle(x, 50);
            eq(360, x.wagesOf(11));
            x.passShifts(1);
            eq(378, x.wagesOf(11));
        });
        noSuchMember(8, NO_MEMBER, (x, member) -> x.wagesOf(member));
        sentence(9, "Returns the support that a member has got so far.", () -> {
            VaneUnion x = withFund(12, 25);
            eq(0, x.supportOf(0));
            strike(x);
            eq(0, x.supportOf(0));
            x.passShifts(1);
            eq(2, x.supportOf(0));
            eq(2, x.supportOf(11));
            x.passShifts(1);
            eq(2, x.supportOf(0));
            settle(x, 1);
            eq(2, x.supportOf(0));
        });
        noSuchMember(9, NO_MEMBER, (x, member) -> x.supportOf(member));
    }

    private static void lostShiftsAndDays() {
        sentence(10, "Returns the number of shifts that a member has lost so far.", () -> {
            VaneUnion x = members(12);
            x.passShifts(30);
            eq(0, x.lostShifts(0));
            strike(x);
            eq(0, x.lostShifts(0));
            x.passShifts(1);
            eq(1, x.lostShifts(0));
            eq(1, x.lostShifts(11));
            x.passShifts(30);
            eq(31, x.lostShifts(11));
            settle(x, 1);
            x.passShifts(1);
            eq(31, x.lostShifts(11));
        });
        noSuchMember(10, NO_MEMBER, (x, member) -> x.lostShifts(member));
        sentence(11, "the number of lost shifts divided by 3, both converted to float", () -> {
            VaneUnion x = onStrike(2);
            eq(0f, x.lostDays(0));
            for (int lost = 1; lost <= 60; lost++) {
                x.passShifts(1);
                eq((float) lost / 3f, x.lostDays(1));
            }
        });
        noSuchMember(11, NO_MEMBER, (x, member) -> x.lostDays(member));
    }

    private static void duties() {
        sentence(12, "Returns the number of picket duties of a member so far.", () -> {
            VaneUnion x = onStrike(12);
            x.passShifts(1);
            eq(0, x.dutiesOf(0));
            x.signUp(9, 11);
            eq(0, x.dutiesOf(11));
            x.passShifts(30);
            eq(30, x.dutiesOf(11));
            eq(0, x.dutiesOf(0));
            x.strikeOff(11);
            x.passShifts(1);
            eq(30, x.dutiesOf(11));
            settle(x, 1);
            eq(30, x.dutiesOf(11));
        });
        noSuchMember(12, NO_MEMBER, (x, member) -> x.dutiesOf(member));
    }

    private static void checkRanks(VaneUnion x, int... members) {
        for (int rank = 0; rank < members.length; rank++) {
            eq(members[rank], x.memberAtRank(rank));
        }
    }

    private static void ranks() {
        sentence(13, "the member with more wages first", () -> {
            VaneUnion x = members(12);
            x.setWind(0, 1);
            x.passShifts(1);
            checkRanks(x, 11, 10, 9, 8, 7, 6, 5, 4, 3, 2, 1, 0);
            strike(x);
            x.passShifts(1);
            checkRanks(x, 11, 10, 9, 8, 7, 6, 5, 4, 3, 2, 1, 0);
            VaneUnion falling = new VaneUnion();
            for (int rate : new int[] {7, 6, 5, 20, 1}) {
                falling.addMember(0, rate);
            }
            falling.setWind(0, 1);
            falling.passShifts(1);
            checkRanks(falling, 3, 0, 1, 2, 4);
            VaneUnion y = onStrike(1);
            y.passShifts(2);
            settle(y, 1);
            y.setWind(0, 1);
            y.passShifts(1);
            y.addMember(0, 20);
            // Member 0 has 2 coins and has lost 2 shifts, member 1 has neither.
            checkRanks(y, 0, 1);
        });
        sentence(13, "of members with the same wages the one with fewer lost shifts first", () -> {
            VaneUnion x = onStrike(2);
            x.passShifts(1);
            x.addMember(0, 20);
            x.passShifts(1);
            x.addMember(0, 1);
            checkRanks(x, 3, 2, 0, 1);
            x.passShifts(30);
            checkRanks(x, 3, 2, 0, 1);
        });
        sentence(13, "then the one with the lower number first", () -> {
            checkRanks(members(12), 0, 1, 2, 3, 4, 5, 6, 7, 8, 9, 10, 11);
            VaneUnion x = new VaneUnion();
            for (int rate : new int[] {5, 9, 5, 9, 1}) {
                x.addMember(0, rate);
            }
            x.setWind(0, 1);
            x.passShifts(3);
            checkRanks(x, 1, 3, 0, 2, 4);
            strike(x);
            x.passShifts(1);
            checkRanks(x, 1, 3, 0, 2, 4);
        });
        sentence(13, "`rank`: the rank, from 0", () -> {
            eq(0, members(1).memberAtRank(0));
            eq(0, members(12).memberAtRank(0));
            eq(11, members(12).memberAtRank(11));
        });
    }

    private static void rankRefusals() {
        sentence(13, "Throws `NoSuchElementException` if there is no such rank", () -> {
            NumberUse use = (x, rank) -> x.memberAtRank(rank);
            refusedFor(ELEMENT, () -> new VaneUnion(), use, 0, -1, 1, LEAST, MOST);
            refusedFor(ELEMENT, () -> members(3), use, -1, 3, 11, 12, LEAST, MOST);
            refusedFor(ELEMENT, () -> members(12), use, -1, 12, LEAST, MOST);
            VaneUnion x = members(3);
            x.undo();
            refuses(ELEMENT, () -> x.memberAtRank(2));
        });
    }
}
