/** Tests promise by promise: ordinary inputs, the edges that the document names, wrong inputs. */
public final class PromiseTests extends TestKit {
    public static void main(String[] args) {
        testNewObject();
        testMembers();
        testMembersAfterRestoring();
        testAcceptanceOfRestoredMember();
        testFullUnion();
        testMemberQueries();
        testRanks();
        testWind();
        testSteps();
        testShifts();
        testVotes();
        testStrikes();
        testStrikeShiftSteps();
        testFund();
        testFundedShifts();
        testSignUp();
        testStrikeOff();
        testListQueries();
        testPicketTurns();
        testOffers();
        testAccept();
        testOfferQueries();
        testSettlement();
        testTotals();
        testAppend();
        testRunOfEachCommand();
        testRunAllOrNothing();
        testErrorPositions();
        testFailedCommand();
        testLine();
        testLineQueries();
        testMeanLostDays();
        testIsConsistent();
        testUndo();
        testUndoOfEachChange();
        testUndoGoesBackOneChange();
        testSnapshot();
        testWhatIsNeitherUndoneNorSaved();
        testRefusedCallsAreNoChanges();
        finish("PromiseTests");
    }

    // ---- tests

    private static void testNewObject() {
        promise = 1;
        VaneUnion x = new VaneUnion();
        eq(0, x.memberCount());
        eq(0, x.fund());
        eq(false, x.isOnStrike());
        eq(0, x.windDirection());
        eq(0, x.windSpeed());
        eq(0, x.shiftCount());
        eq(0, x.day());
        eq(0, x.votesFor());
        eq(0L, x.wageTotal());
        eq(0, x.lostTotal());
        eq(0, x.lostTotalByRoofs());
        eq(0, x.stepTotal());
        eq(0, x.settlementCount());
        eq(true, x.isConsistent());
        for (int roof = 0; roof < 10; roof++) {
            eq(0, x.membersOn(roof));
            eq(0, x.listLength(roof));
        }
        refuses(INDEX, () -> x.roofOf(0));
        refuses(STATE, () -> x.strikeShifts());
        refuses(ELEMENT, () -> x.offerPercent());
        refuses(ELEMENT, () -> x.errorPosition());
        refuses(ELEMENT, () -> x.failedCommand());
        refuses(INDEX, () -> x.lineAt(0));
        refuses(STATE, () -> x.undo());
        refuses(STATE, () -> x.restore());
        VaneUnion other = members(3);
        eq(3, other.memberCount());
        eq(0, x.memberCount());
    }

    private static void testMembers() {
        promise = 2;
        VaneUnion x = new VaneUnion();
        eq(0, x.addMember(0, 1));
        eq(1, x.addMember(9, 20));
        eq(0, x.bearingOf(1));
        for (int roof : NO_ROOFS) {
            refuses(INDEX, () -> x.addMember(roof, 5));
            refuses(INDEX, () -> x.addMember(roof, 0));
        }
        for (int rate : new int[] {0, 21, -1, Integer.MIN_VALUE, Integer.MAX_VALUE}) {
            refuses(ARGUMENT, () -> x.addMember(0, rate));
        }
        promise = 3;
        eq(2, x.memberCount());
        for (int number = 2; number < 12; number++) {
            promise = 2;
            eq(number, x.addMember(5, 7));
            promise = 3;
            eq(number + 1, x.memberCount());
        }
        promise = 2;
        refuses(STATE, () -> x.addMember(5, 7));
        refuses(ARGUMENT, () -> x.addMember(5, 21));
        refuses(INDEX, () -> x.addMember(10, 21));
        promise = 3;
        eq(12, x.memberCount());
        promise = 2;
        VaneUnion late = new VaneUnion();
        late.setWind(3, 4);
        late.addMember(0, 5);
        late.passShifts(1);
        eq(1, late.addMember(0, 5));
        eq(3, late.bearingOf(0));
        eq(0, late.bearingOf(1));
        eq(0, late.wagesOf(1));
        VaneUnion again = new VaneUnion();
        again.addMember(4, 9);
        again.setWind(6, 1);
        again.passShifts(2);
        again.vote(0, true);
        again.callStrike();
        again.signUp(2, 0);
        again.payIn(9);
        for (int i = 0; i < 7; i++) {
            again.undo();
        }
        eq(0, again.memberCount());
        eq(0, again.addMember(5, 3));
        eq(5, again.roofOf(0));
        eq(3, again.rateOf(0));
        eq(0, again.bearingOf(0));
        eq(0, again.wagesOf(0));
        eq(false, again.hasVoted(0));
        refuses(ELEMENT, () -> again.listOf(0));
    }

    private static void testMembersAfterRestoring() {
        promise = 2;
        VaneUnion x = new VaneUnion();
        x.save();
        x.addMember(4, 9);
        x.setWind(6, 1);
        x.passShifts(2);
        strike(x);
        x.payIn(9);
        x.signUp(2, 0);
        x.passShifts(3);
        x.addMember(5, 9);
        x.makeOffer(3);
        x.accept(0);
        x.restore();
        eq(0, x.addMember(8, 4));
        eq("m0@8a 0", line(x, x.describeMember(0)));
        eq(4, x.rateOf(0));
        eq(0, x.dutiesOf(0));
        eq(0, x.membersOn(4));
        refuses(ELEMENT, () -> x.listOf(0));
        x.vote(0, true);
        x.callStrike();
        x.makeOffer(1);
        eq(0, x.acceptances());
        promise = 57;
        x.restore();
        x.addMember(8, 4);
        x.vote(0, true);
        x.restore();
        x.addMember(7, 5);
        eq(false, x.hasVoted(0));
        x.save();
        x.undo();
        x.addMember(6, 3);
        x.restore();
        eq(7, x.roofOf(0));
        eq(5, x.rateOf(0));
    }

    private static void testAcceptanceOfRestoredMember() {
        promise = 2;
        VaneUnion x = onStrike(3);
        x.makeOffer(3);
        x.save();
        x.addMember(0, 5);
        x.accept(3);
        x.restore();
        x.addMember(0, 5);
        eq(0, x.acceptances());
        eq(false, x.accept(3));
    }

    private static void testFullUnion() {
        VaneUnion x = onStrike(12);
        promise = 23;
        eq(0, x.votesFor());
        promise = 37;
        eq(0, x.makeOffer(5));
        promise = 38;
        for (int member = 11; member > 5; member--) {
            eq(false, x.accept(member));
        }
        promise = 40;
        eq(6, x.acceptances());
        promise = 37;
        eq(6, x.makeOffer(10));
        promise = 35;
        x.signUp(3, 11);
        refuses(ELEMENT, () -> x.listedAt(3, 1));
        promise = 38;
        for (int member = 0; member < 6; member++) {
            eq(false, x.accept(member));
        }
        eq(true, x.accept(11));
        eq(14, x.rateOf(11));
        strike(x);
        promise = 37;
        eq(0, x.makeOffer(10));
        promise = 54;
        eq(true, x.isConsistent());
    }

    private static void testMemberQueries() {
        VaneUnion x = new VaneUnion();
        x.addMember(7, 4);
        x.addMember(0, 20);
        x.addMember(7, 1);
        x.setWind(5, 1);
        x.passShifts(2);
        x.payIn(7);
        strike(x);
        x.signUp(3, 2);
        x.passShifts(4);
        promise = 4;
        eq(7, x.roofOf(0));
        eq(0, x.roofOf(1));
        promise = 5;
        eq(2, x.membersOn(7));
        eq(1, x.membersOn(0));
        eq(0, x.membersOn(9));
        for (int roof : NO_ROOFS) {
            refuses(INDEX, () -> x.membersOn(roof));
        }
        promise = 6;
        eq(4, x.rateOf(0));
        eq(20, x.rateOf(1));
        promise = 7;
        eq(5, x.bearingOf(2));
        promise = 8;
        eq(8, x.wagesOf(0));
        eq(40, x.wagesOf(1));
        promise = 9;
        eq(2, x.supportOf(0));
        eq(2, x.supportOf(1));
        eq(2, x.supportOf(2));
        promise = 10;
        eq(4, x.lostShifts(0));
        eq(4, x.lostShifts(2));
        promise = 11;
        eq(4f / 3f, x.lostDays(0));
        eq(0f, members(1).lostDays(0));
        promise = 12;
        eq(0, x.dutiesOf(0));
        eq(4, x.dutiesOf(2));
        for (int member : new int[] {-1, 3, 12, Integer.MIN_VALUE, Integer.MAX_VALUE}) {
            promise = 4;
            refuses(INDEX, () -> x.roofOf(member));
            promise = 6;
            refuses(INDEX, () -> x.rateOf(member));
            promise = 7;
            refuses(INDEX, () -> x.bearingOf(member));
            promise = 8;
            refuses(INDEX, () -> x.wagesOf(member));
            promise = 9;
            refuses(INDEX, () -> x.supportOf(member));
            promise = 10;
            refuses(INDEX, () -> x.lostShifts(member));
            promise = 11;
            refuses(INDEX, () -> x.lostDays(member));
            promise = 12;
            refuses(INDEX, () -> x.dutiesOf(member));
        }
    }

    private static void testRanks() {
        promise = 13;
        VaneUnion x = new VaneUnion();
        refuses(ELEMENT, () -> x.memberAtRank(0));
        x.addMember(0, 5);
        x.addMember(0, 7);
        x.addMember(0, 5);
        eq(0, x.memberAtRank(0));
        eq(1, x.memberAtRank(1));
        eq(2, x.memberAtRank(2));
        x.setWind(0, 1);
        x.passShifts(1);
        eq(1, x.memberAtRank(0));
        eq(0, x.memberAtRank(1));
        eq(2, x.memberAtRank(2));
        for (int rank : new int[] {-1, 3, 12, Integer.MIN_VALUE, Integer.MAX_VALUE}) {
            refuses(ELEMENT, () -> x.memberAtRank(rank));
        }
        VaneUnion y = new VaneUnion();
        y.addMember(0, 4);
        strike(y);
        y.passShifts(1);
        y.addMember(0, 4);
        eq(1, y.memberAtRank(0));
        eq(0, y.memberAtRank(1));
        y.makeOffer(1);
        y.accept(0);
        y.accept(1);
        y.setWind(0, 1);
        y.passShifts(1);
        eq(1, y.memberAtRank(0));
        y.addMember(0, 20);
        y.passShifts(1);
        eq(2, y.memberAtRank(0));
        eq(1, y.memberAtRank(1));
        eq(0, y.memberAtRank(2));
    }

    private static void testWind() {
        promise = 14;
        VaneUnion x = new VaneUnion();
        eq(4, x.setWind(4, 0));
        eq(3, x.setWind(7, 12));
        promise = 15;
        eq(7, x.windDirection());
        promise = 16;
        eq(12, x.windSpeed());
        promise = 14;
        eq(1, x.setWind(0, 3));
        eq(0, x.setWind(0, 3));
        eq(3, x.setWind(5, 3));
        int[][] bad = {{-1, 0}, {8, 0}, {0, -1}, {0, 13}, {Integer.MIN_VALUE, 0}, {0, Integer.MAX_VALUE}};
        for (int[] pair : bad) {
            refuses(ARGUMENT, () -> x.setWind(pair[0], pair[1]));
        }
        promise = 15;
        eq(5, x.windDirection());
        promise = 16;
        eq(3, x.windSpeed());
    }

    private static void testSteps() {
        int[] way = {0, 1, 2, 3, 4, 3, 2, 1};
        for (int from = 0; from < 8; from++) {
            for (int to = 0; to < 8; to++) {
                VaneUnion x = members(1);
                x.setWind(from, 0);
                x.passShifts(1);
                int due = way[(to - from + 8) % 8];
                promise = 14;
                eq(due, x.setWind(to, 0));
                promise = 17;
                eq(due, x.stepsToWind(0));
                promise = 18;
                eq(due, x.stepsToWindByTurning(0));
                promise = 19;
                eq(due, x.passShifts(1));
                promise = 17;
                eq(0, x.stepsToWind(0));
                promise = 18;
                eq(0, x.stepsToWindByTurning(0));
            }
        }
        VaneUnion x = members(2);
        for (int member : new int[] {-1, 2, Integer.MIN_VALUE, Integer.MAX_VALUE}) {
            promise = 17;
            refuses(INDEX, () -> x.stepsToWind(member));
            promise = 18;
            refuses(INDEX, () -> x.stepsToWindByTurning(member));
        }
    }

    private static void testShifts() {
        promise = 19;
        VaneUnion x = members(3);
        x.setWind(3, 0);
        eq(9, x.passShifts(1));
        eq(3, x.bearingOf(2));
        eq(0, x.wagesOf(2));
        x.setWind(1, 1);
        eq(6, x.passShifts(30));
        eq(90, x.wagesOf(2));
        promise = 20;
        eq(31, x.shiftCount());
        promise = 21;
        eq(10, x.day());
        promise = 19;
        for (int shifts : new int[] {0, 31, -1, Integer.MIN_VALUE, Integer.MAX_VALUE}) {
            refuses(ARGUMENT, () -> x.passShifts(shifts));
        }
        promise = 20;
        eq(31, x.shiftCount());
        x.passShifts(1);
        promise = 21;
        eq(10, x.day());
        x.passShifts(1);
        eq(11, x.day());
        promise = 20;
        strike(x);
        x.passShifts(2);
        eq(35, x.shiftCount());
        promise = 21;
        eq(11, x.day());
        promise = 19;
        VaneUnion none = new VaneUnion();
        none.setWind(4, 4);
        eq(0, none.passShifts(30));
        promise = 20;
        eq(30, none.shiftCount());
    }

    private static void testVotes() {
        promise = 22;
        VaneUnion x = members(3);
        eq(0, x.vote(2, false));
        eq(1, x.vote(0, true));
        eq(1, x.vote(0, true));
        eq(2, x.vote(2, true));
        eq(1, x.vote(0, false));
        promise = 23;
        eq(1, x.votesFor());
        promise = 24;
        eq(true, x.hasVoted(0));
        eq(false, x.hasVoted(1));
        eq(true, x.hasVoted(2));
        for (int member : new int[] {-1, 3, Integer.MIN_VALUE, Integer.MAX_VALUE}) {
            promise = 22;
            refuses(INDEX, () -> x.vote(member, true));
            promise = 24;
            refuses(INDEX, () -> x.hasVoted(member));
        }
        promise = 22;
        strike(x);
        refuses(STATE, () -> x.vote(0, true));
        refuses(INDEX, () -> x.vote(3, true));
        promise = 23;
        eq(0, x.votesFor());
        promise = 24;
        eq(false, x.hasVoted(0));
    }

    private static void testStrikes() {
        promise = 25;
        VaneUnion none = new VaneUnion();
        refuses(UNSUPPORTED, () -> none.callStrike());
        VaneUnion x = members(4);
        x.vote(0, true);
        x.vote(1, true);
        x.vote(2, false);
        refuses(UNSUPPORTED, () -> x.callStrike());
        eq(2, x.votesFor());
        x.vote(3, true);
        eq(1, x.callStrike());
        eq(0, x.votesFor());
        eq(false, x.hasVoted(2));
        refuses(STATE, () -> x.callStrike());
        promise = 26;
        eq(true, x.isOnStrike());
        promise = 27;
        eq(0, x.strikeShifts());
        x.passShifts(4);
        eq(4, x.strikeShifts());
        x.passShifts(30);
        eq(34, x.strikeShifts());
        x.makeOffer(1);
        x.accept(0);
        x.accept(1);
        x.accept(2);
        refuses(STATE, () -> x.strikeShifts());
        promise = 26;
        eq(false, x.isOnStrike());
        promise = 25;
        refuses(UNSUPPORTED, () -> x.callStrike());
        x.vote(0, true);
        x.vote(1, true);
        x.vote(2, true);
        eq(2, x.callStrike());
        promise = 27;
        eq(0, x.strikeShifts());
        promise = 25;
        VaneUnion odd = members(3);
        odd.vote(0, true);
        refuses(UNSUPPORTED, () -> odd.callStrike());
        odd.vote(1, true);
        eq(1, odd.callStrike());
    }

    private static void testStrikeShiftSteps() {
        promise = 19;
        VaneUnion x = members(3);
        x.setWind(4, 9);
        x.payIn(5);
        strike(x);
        x.signUp(8, 1);
        eq(0, x.passShifts(1));
        eq(0, x.bearingOf(0));
        eq(0, x.wagesOf(0));
        eq(1, x.lostShifts(2));
        eq(2, x.supportOf(0));
        eq(2, x.supportOf(1));
        eq(0, x.supportOf(2));
        eq(1, x.fund());
        eq(1, x.dutiesOf(1));
        eq(0, x.dutiesOf(0));
        eq(3, x.addMember(0, 5));
        x.payIn(7);
        x.passShifts(1);
        eq(1, x.lostShifts(3));
        eq(2, x.supportOf(3));
        eq(0, x.fund());
        eq(0, x.stepTotal());
    }

    private static void testFund() {
        promise = 28;
        VaneUnion x = new VaneUnion();
        eq(1, x.payIn(1));
        for (int i = 1; i <= 10; i++) {
            eq(1 + 999 * i, x.payIn(999));
        }
        refuses(STATE, () -> x.payIn(9));
        for (int coins : new int[] {0, 1000, -1, Integer.MIN_VALUE, Integer.MAX_VALUE}) {
            refuses(ARGUMENT, () -> x.payIn(coins));
        }
        promise = 29;
        eq(9991, x.fund());
        promise = 28;
        eq(9999, x.payIn(8));
        refuses(STATE, () -> x.payIn(1));
        promise = 29;
        eq(9999, x.fund());
    }

    private static void testFundedShifts() {
        VaneUnion none = new VaneUnion();
        none.payIn(10);
        promise = 30;
        refuses(ARITHMETIC, () -> none.fundedShifts());
        promise = 31;
        refuses(ARITHMETIC, () -> none.fundedShiftsByPaying());
        int[][] rows = {{1, 1, 0}, {1, 2, 1}, {1, 999, 499}, {3, 5, 0}, {3, 6, 1}, {3, 11, 1}, {3, 12, 2}, {12, 999, 41}};
        for (int[] row : rows) {
            VaneUnion x = members(row[0]);
            x.payIn(row[1]);
            promise = 30;
            eq(row[2], x.fundedShifts());
            promise = 31;
            eq(row[2], x.fundedShiftsByPaying());
            promise = 29;
            eq(row[1], x.fund());
        }
        VaneUnion full = members(1);
        for (int i = 0; i < 10; i++) {
            full.payIn(999);
        }
        full.payIn(9);
        promise = 30;
        eq(4999, full.fundedShifts());
        promise = 31;
        eq(4999, full.fundedShiftsByPaying());
        eq(0, members(2).fundedShiftsByPaying());
    }

    private static void testSignUp() {
        promise = 32;
        VaneUnion x = members(7);
        refuses(STATE, () -> x.signUp(0, 0));
        refuses(INDEX, () -> x.signUp(10, 0));
        refuses(INDEX, () -> x.signUp(0, 7));
        strike(x);
        for (int roof : NO_ROOFS) {
            refuses(INDEX, () -> x.signUp(roof, 0));
        }
        for (int member : new int[] {-1, 7, Integer.MIN_VALUE, Integer.MAX_VALUE}) {
            refuses(INDEX, () -> x.signUp(0, member));
        }
        eq(1, x.signUp(9, 5));
        eq(2, x.signUp(9, 0));
        eq(1, x.signUp(0, 6));
        refuses(UNSUPPORTED, () -> x.signUp(9, 0));
        refuses(UNSUPPORTED, () -> x.signUp(3, 0));
        eq(3, x.signUp(9, 4));
        eq(4, x.signUp(9, 1));
        refuses(STATE, () -> x.signUp(9, 2));
        refuses(STATE, () -> x.signUp(9, 0));
        refuses(INDEX, () -> x.signUp(9, 7));
        eq(5, x.listedAt(9, 0));
        eq(0, x.listedAt(9, 1));
        eq(4, x.listedAt(9, 2));
        eq(1, x.listedAt(9, 3));
    }

    private static void testStrikeOff() {
        promise = 33;
        VaneUnion x = onStrike(6);
        refuses(ELEMENT, () -> x.strikeOff(0));
        for (int member : new int[] {-1, 6, Integer.MIN_VALUE, Integer.MAX_VALUE}) {
            refuses(INDEX, () -> x.strikeOff(member));
        }
        x.signUp(2, 5);
        x.signUp(2, 1);
        x.signUp(2, 4);
        x.signUp(3, 0);
        eq(2, x.strikeOff(1));
        refuses(ELEMENT, () -> x.strikeOff(1));
        eq(2, x.listLength(2));
        eq(5, x.listedAt(2, 0));
        eq(4, x.listedAt(2, 1));
        eq(0, x.listedAt(3, 0));
        eq(2, x.strikeOff(5));
        eq(4, x.listedAt(2, 0));
        eq(2, x.signUp(2, 1));
        eq(1, x.listedAt(2, 1));
        eq(2, x.strikeOff(1));
        eq(2, x.strikeOff(4));
        eq(0, x.listLength(2));
        eq(3, x.strikeOff(0));
        x.signUp(6, 3);
        x.signUp(6, 0);
        x.strikeOff(3);
        checkList(x, 6, 0);
    }

    private static void testListQueries() {
        VaneUnion x = onStrike(3);
        x.signUp(0, 2);
        x.signUp(0, 0);
        promise = 34;
        eq(2, x.listLength(0));
        eq(0, x.listLength(9));
        promise = 35;
        eq(2, x.listedAt(0, 0));
        eq(0, x.listedAt(0, 1));
        for (int position : new int[] {-1, 2, 4, Integer.MIN_VALUE, Integer.MAX_VALUE}) {
            refuses(ELEMENT, () -> x.listedAt(0, position));
        }
        refuses(ELEMENT, () -> x.listedAt(1, 0));
        for (int roof : NO_ROOFS) {
            promise = 34;
            refuses(INDEX, () -> x.listLength(roof));
            promise = 35;
            refuses(INDEX, () -> x.listedAt(roof, 0));
            refuses(INDEX, () -> x.listedAt(roof, -1));
        }
        promise = 36;
        eq(0, x.listOf(2));
        refuses(ELEMENT, () -> x.listOf(1));
        for (int member : new int[] {-1, 3, Integer.MIN_VALUE, Integer.MAX_VALUE}) {
            refuses(INDEX, () -> x.listOf(member));
        }
        x.signUp(9, 1);
        eq(9, x.listOf(1));
    }

    private static void testPicketTurns() {
        promise = 19;
        VaneUnion x = onStrike(12);
        int[][] lists = {{3}, {5, 4}, {8, 6, 7}, {2, 11, 1, 10}};
        for (int roof = 0; roof < lists.length; roof++) {
            for (int member : lists[roof]) {
                x.signUp(roof, member);
            }
        }
        x.passShifts(1);
        checkList(x, 0, 3);
        checkList(x, 1, 5, 4);
        checkList(x, 2, 7, 8, 6);
        checkList(x, 3, 1, 10, 2, 11);
        checkDuties(x, 0, 0, 1, 1, 1, 1, 1, 0, 1, 0, 0, 1);
        x.passShifts(1);
        checkList(x, 2, 6, 7, 8);
        checkList(x, 3, 2, 11, 1, 10);
        checkDuties(x, 0, 1, 1, 2, 2, 2, 1, 1, 2, 0, 1, 1);
        x.strikeOff(11);
        x.passShifts(2);
        checkList(x, 2, 7, 8, 6);
        checkList(x, 3, 1, 10, 2);
        checkDuties(x, 0, 2, 3, 4, 4, 4, 3, 2, 3, 0, 2, 1);
    }

    private static void testOffers() {
        promise = 37;
        VaneUnion x = members(5);
        refuses(STATE, () -> x.makeOffer(10));
        refuses(ARGUMENT, () -> x.makeOffer(0));
        strike(x);
        for (int percent : new int[] {0, 51, -1, Integer.MIN_VALUE, Integer.MAX_VALUE}) {
            refuses(ARGUMENT, () -> x.makeOffer(percent));
        }
        eq(0, x.makeOffer(1));
        x.accept(4);
        x.accept(0);
        refuses(ARGUMENT, () -> x.makeOffer(51));
        eq(2, x.acceptances());
        eq(2, x.makeOffer(50));
        eq(50, x.offerPercent());
        eq(0, x.acceptances());
        eq(0, x.makeOffer(50));
        eq(false, x.accept(4));
    }

    private static void testAccept() {
        promise = 38;
        VaneUnion x = members(4);
        refuses(ELEMENT, () -> x.accept(0));
        strike(x);
        refuses(ELEMENT, () -> x.accept(0));
        refuses(INDEX, () -> x.accept(4));
        x.makeOffer(10);
        for (int member : new int[] {-1, 4, Integer.MIN_VALUE, Integer.MAX_VALUE}) {
            refuses(INDEX, () -> x.accept(member));
        }
        eq(false, x.accept(0));
        refuses(STATE, () -> x.accept(0));
        eq(false, x.accept(3));
        eq(true, x.accept(1));
        refuses(ELEMENT, () -> x.accept(2));
        strike(x);
        x.makeOffer(10);
        eq(0, x.acceptances());
        eq(false, x.accept(1));
        VaneUnion grown = onStrike(1);
        grown.addMember(0, 5);
        grown.makeOffer(2);
        eq(false, grown.accept(0));
        eq(true, grown.accept(1));
    }

    private static void testOfferQueries() {
        VaneUnion x = onStrike(3);
        promise = 39;
        refuses(ELEMENT, () -> x.offerPercent());
        promise = 40;
        refuses(ELEMENT, () -> x.acceptances());
        promise = 41;
        refuses(ELEMENT, () -> x.offeredRate(0));
        refuses(INDEX, () -> x.offeredRate(3));
        x.makeOffer(34);
        promise = 39;
        eq(34, x.offerPercent());
        promise = 40;
        eq(0, x.acceptances());
        x.accept(2);
        eq(1, x.acceptances());
        promise = 41;
        eq(2, x.offeredRate(0));
        eq(3, x.offeredRate(1));
        eq(5, x.offeredRate(2));
        for (int member : new int[] {-1, 3, Integer.MIN_VALUE, Integer.MAX_VALUE}) {
            refuses(INDEX, () -> x.offeredRate(member));
        }
        x.accept(1);
        promise = 39;
        refuses(ELEMENT, () -> x.offerPercent());
        promise = 40;
        refuses(ELEMENT, () -> x.acceptances());
        promise = 41;
        refuses(ELEMENT, () -> x.offeredRate(0));
    }

    private static void testSettlement() {
        promise = 38;
        VaneUnion x = new VaneUnion();
        x.addMember(0, 20);
        x.addMember(0, 10);
        x.addMember(0, 1);
        int[][] due = {{30, 15, 2}, {45, 23, 3}, {68, 35, 5}, {99, 53, 8}, {99, 80, 12}, {99, 99, 18}};
        for (int[] rates : due) {
            strike(x);
            x.signUp(4, 0);
            x.signUp(9, 1);
            x.makeOffer(50);
            for (int member = 0; member < 3; member++) {
                promise = 41;
                eq(rates[member], x.offeredRate(member));
            }
            promise = 38;
            eq(false, x.accept(0));
            eq(true, x.accept(1));
            for (int member = 0; member < 3; member++) {
                int listed = member;
                eq(rates[member], x.rateOf(member));
                eq(false, x.hasVoted(member));
                refuses(ELEMENT, () -> x.listOf(listed));
            }
            eq(0, x.votesFor());
            eq(0, x.listLength(4));
            eq(0, x.listLength(9));
            eq(false, x.isOnStrike());
        }
        promise = 46;
        eq(6, x.settlementCount());
        promise = 38;
        VaneUnion tenth = new VaneUnion();
        tenth.addMember(0, 10);
        strike(tenth);
        tenth.makeOffer(10);
        tenth.accept(0);
        eq(11, tenth.rateOf(0));
        tenth.setWind(0, 1);
        tenth.passShifts(1);
        eq(11, tenth.wagesOf(0));
    }

    private static void testTotals() {
        VaneUnion x = new VaneUnion();
        x.addMember(0, 20);
        x.addMember(9, 3);
        x.addMember(9, 5);
        x.setWind(6, 2);
        x.passShifts(3);
        promise = 42;
        eq(84L, x.wageTotal());
        promise = 45;
        eq(6, x.stepTotal());
        x.setWind(7, 2);
        x.passShifts(1);
        eq(9, x.stepTotal());
        strike(x);
        x.passShifts(2);
        x.addMember(5, 1);
        x.passShifts(1);
        promise = 43;
        eq(10, x.lostTotal());
        promise = 44;
        eq(10, x.lostTotalByRoofs());
        promise = 46;
        eq(0, x.settlementCount());
        x.makeOffer(3);
        x.accept(0);
        x.accept(1);
        x.accept(2);
        eq(1, x.settlementCount());
        promise = 45;
        eq(9, x.stepTotal());
        promise = 42;
        eq(112L, x.wageTotal());
    }

    private static void testAppend() {
        promise = 47;
        VaneUnion x = new VaneUnion();
        for (char c : new char[] {0, 31, 127, 128, 255, 256, 0xffff}) {
            refuses(ARGUMENT, () -> x.append(c));
        }
        for (int length = 1; length <= 60; length++) {
            eq(length, x.append(length % 2 == 0 ? ' ' : '~'));
        }
        refuses(STATE, () -> x.append('a'));
        refuses(ARGUMENT, () -> x.append((char) 127));
        refuses(ARGUMENT, () -> x.run());
        eq(1, x.append('a'));
    }

    private static void testRunOfEachCommand() {
        promise = 48;
        VaneUnion x = new VaneUnion();
        eq(1, run(x, "member 3 20"));
        eq(3, x.roofOf(0));
        eq(20, x.rateOf(0));
        eq(1, run(x, "wind 5 12"));
        eq(5, x.windDirection());
        eq(12, x.windSpeed());
        eq(1, run(x, "shift 2"));
        eq(2, x.shiftCount());
        eq(3, x.stepTotal());
        eq(1, run(x, "vote 0+"));
        eq(1, x.votesFor());
        eq(1, run(x, "vote 000-"));
        eq(0, x.votesFor());
        eq(true, x.hasVoted(0));
        eq(2, run(x, "vote 0+;strike"));
        eq(true, x.isOnStrike());
        eq(1, run(x, "pay 999"));
        eq(999, x.fund());
        eq(1, run(x, "picket 7 0"));
        eq(7, x.listOf(0));
        eq(1, run(x, "off 0"));
        eq(0, x.listLength(7));
        eq(1, run(x, "offer 50"));
        eq(50, x.offerPercent());
        eq(1, run(x, "accept 0"));
        eq(30, x.rateOf(0));
        eq(1, x.settlementCount());
        eq(10, run(x, "pay 1;pay 1;pay 1;pay 1;pay 1;pay 1;pay 1;pay 1;pay 1;pay 01"));
        eq(1009, x.fund());
        eq(4, run(x, "member 0 020;member 9 1;vote 1+;vote 2+"));
        eq(20, x.rateOf(1));
        eq(2, x.votesFor());
        eq(3, run(x, "strike;offer 1;offer 20"));
        eq(20, x.offerPercent());
        refuses(ARGUMENT, () -> x.run());
        eq(0, x.errorPosition());
    }

    private static void testRunAllOrNothing() {
        promise = 48;
        VaneUnion x = members(2);
        x.payIn(5);
        x.save();
        write(x, "pay 7;vote 0+;vote 1+;strike;shift 3;picket 1 0;accept 0");
        refuses(STATE, () -> x.run());
        eq(5, x.fund());
        eq(false, x.isOnStrike());
        eq(false, x.hasVoted(0));
        eq(0, x.shiftCount());
        eq(0, x.lostTotal());
        eq(0, x.listLength(1));
        promise = 50;
        eq(6, x.failedCommand());
        promise = 48;
        eq(1, x.append('x'));
        refuses(ARGUMENT, () -> x.run());
        eq(3, run(x, "vote 0+;vote 1+;strike"));
        eq(3, x.undo());
        eq(false, x.isOnStrike());
        write(x, "member 0 5;member 0 5;member 0 21");
        refuses(STATE, () -> x.run());
        eq(2, x.memberCount());
        eq(2, x.undo());
        eq(0, x.fund());
    }

    private static void testErrorPositions() {
        promise = 49;
        Object[][] rows = {
            {"", 0}, {"x", 0}, {" ", 0}, {";", 0}, {"Member", 0}, {"s", 1}, {"st", 2}, {"sh", 2}, {"sx", 1},
            {"strik", 5}, {"strike ", 6}, {"strikes", 6}, {"strike;", 7}, {"strike;;", 7}, {"strike; ", 7},
            {"member", 6}, {"member ", 7}, {"memberx", 6}, {"member  1", 7}, {"member 1", 8}, {"member 10 5", 8},
            {"member 1 ", 9}, {"member 1 x", 9}, {"member 1 1234", 12}, {"member 1 12x", 11}, {"member 1  2", 9},
            {"wind 1", 6}, {"wing", 3}, {"wind 9-1", 6}, {"wind -1 2", 5}, {"shift", 5}, {"shift ", 6},
            {"shift 1 ", 7}, {"shift 1234", 9}, {"shift+1", 5}, {"vote 1", 6}, {"vote 12", 7}, {"vote 123", 8},
            {"vote 1234", 8}, {"vote +", 5}, {"vote 1+-", 7}, {"vote 1+1", 7}, {"vote 1;", 6}, {"vote 1 +", 6},
            {"p", 1}, {"pa", 2}, {"pi", 2}, {"po", 1}, {"pay", 3}, {"pick", 4}, {"picket 3", 8}, {"picket 3 ", 9},
            {"picket 3;", 8}, {"o", 1}, {"of", 2}, {"off", 3}, {"off ", 4}, {"offe", 4}, {"offer", 5}, {"offer ", 6},
            {"off1", 3}, {"offx", 3}, {"offes", 4}, {"offer1", 5}, {"oft", 2}, {"a", 1}, {"accept", 6},
            {"accept x", 7}, {"pay 1;p", 7}, {"pay 1;x", 6}, {"pay 1;;", 6}, {"pay 1 ;pay 1", 5}, {"pay 1;pay ", 10},
            {"pay 1;pay 1;", 12}, {"pay 1;pay 1;offer 1;of", 22}, {"pay /", 4}, {"pay :", 4}, {"pay 1:", 5},
        };
        for (Object[] row : rows) {
            VaneUnion x = new VaneUnion();
            write(x, (String) row[0]);
            refuses(ARGUMENT, () -> x.run());
            eq(row[1], x.errorPosition());
            refuses(ELEMENT, () -> x.failedCommand());
            refuses(STATE, () -> x.undo());
        }
        String full = "pay 1;pay 1;pay 1;pay 1;pay 1;pay 1;pay 1;pay 1;pay 1;pay 1;";
        VaneUnion x = new VaneUnion();
        write(x, full);
        refuses(ARGUMENT, () -> x.run());
        eq(60, x.errorPosition());
        eq(0, x.fund());
        write(x, "pay 1;pax");
        refuses(ARGUMENT, () -> x.run());
        eq(8, x.errorPosition());
        eq(0, x.fund());
        run(x, "pay 1");
        eq(8, x.errorPosition());
        write(x, "strike");
        refuses(STATE, () -> x.run());
        eq(8, x.errorPosition());
    }

    private static void testFailedCommand() {
        promise = 50;
        String[][] rows = {
            {"member 0 21", "0"}, {"member 0 0", "0"}, {"wind 8 1", "0"}, {"wind 0 13", "0"}, {"shift 0", "0"},
            {"shift 31", "0"}, {"vote 2+", "0"}, {"strike", "0"}, {"pay 0", "0"}, {"picket 0 0", "0"}, {"off 0", "0"},
            {"offer 5", "0"}, {"accept 0", "0"}, {"pay 1;pay 000;pay 0", "1"}, {"vote 0+;vote 1+;strike;strike", "3"},
            {"vote 0+;vote 1+;strike;vote 0+", "3"}, {"vote 0+;vote 1+;strike;offer 51", "3"},
            {"vote 0+;vote 1+;strike;picket 0 1;picket 1 1", "4"}, {"vote 0+;vote 1+;strike;offer 1;accept 2", "4"},
            {"vote 0+;vote 1+;strike;off 1", "3"}, {"vote 0+;vote 1-;strike", "2"},
        };
        for (String[] row : rows) {
            VaneUnion x = members(2);
            x.setWind(3, 3);
            write(x, row[0]);
            refuses(STATE, () -> x.run());
            eq(Integer.parseInt(row[1]), x.failedCommand());
            refuses(ELEMENT, () -> x.errorPosition());
            eq(2, x.memberCount());
            eq(3, x.windDirection());
            eq(0, x.fund());
            eq(false, x.isOnStrike());
            eq(0, x.votesFor());
        }
        VaneUnion x = members(2);
        write(x, "vote 0+;vote 1-;strike");
        refuses(STATE, () -> x.run());
        write(x, "x");
        refuses(ARGUMENT, () -> x.run());
        eq(2, x.failedCommand());
        run(x, "pay 1");
        eq(2, x.failedCommand());
        promise = 49;
        eq(0, x.errorPosition());
    }

    private static void testLine() {
        promise = 51;
        VaneUnion x = new VaneUnion();
        for (int i = 0; i < 12; i++) {
            x.addMember(i == 3 ? 7 : 9, i == 3 ? 20 : 1);
        }
        eq("m0@9a 0", line(x, x.describeMember(0)));
        x.setWind(2, 1);
        x.passShifts(6);
        eq("m3@7c 120", line(x, x.describeMember(3)));
        x.payIn(96);
        strike(x);
        eq("m3@7c 120", line(x, x.describeMember(3)));
        x.signUp(0, 3);
        eq("m3@7c 120!", line(x, x.describeMember(3)));
        x.passShifts(4);
        eq("m3@7c 120+8-4!", line(x, x.describeMember(3)));
        eq("m11@9c 6+8-4", line(x, x.describeMember(11)));
        x.passShifts(1);
        eq("m11@9c 6+8-5", line(x, x.describeMember(11)));
    }

    private static void testLineQueries() {
        promise = 52;
        VaneUnion x = members(2);
        refuses(INDEX, () -> x.lineAt(0));
        eq(7, x.describeMember(1));
        eq('m', x.lineAt(0));
        eq('0', x.lineAt(6));
        for (int index : new int[] {-1, 7, Integer.MIN_VALUE, Integer.MAX_VALUE}) {
            refuses(INDEX, () -> x.lineAt(index));
        }
        promise = 51;
        for (int member : new int[] {-1, 2, Integer.MIN_VALUE, Integer.MAX_VALUE}) {
            refuses(INDEX, () -> x.describeMember(member));
        }
        eq("m1@1a 0", line(x, 7));
        for (int bearing = 0; bearing < 8; bearing++) {
            x.setWind(bearing, 1);
            x.passShifts(5);
            String due = "m0@0" + "abcdefgh".charAt(bearing) + " " + 5 * (bearing + 1);
            eq(due.length(), x.describeMember(0));
            eq(due, line(x, due.length()));
        }
        eq(8, x.describeMember(0));
        x.setWind(0, 0);
        eq("m0@0h 40", line(x, 8));
        x.addMember(9, 1);
        eq(7, x.describeMember(2));
        eq("m2@9a 0", line(x, 7));
        refuses(INDEX, () -> x.lineAt(7));
    }

    private static void testMeanLostDays() {
        promise = 53;
        refuses(ARITHMETIC, () -> new VaneUnion().meanLostDays());
        VaneUnion x = members(7);
        eq(0.0, x.meanLostDays());
        strike(x);
        x.passShifts(1);
        eq(7.0 / 21.0, x.meanLostDays());
        x.addMember(0, 1);
        eq(7.0 / 24.0, x.meanLostDays());
        x.passShifts(2);
        eq(23.0 / 24.0, x.meanLostDays());
    }

    private static void testIsConsistent() {
        promise = 54;
        VaneUnion x = new VaneUnion();
        eq(true, x.isConsistent());
        x.payIn(999);
        for (int member = 0; member < 12; member++) {
            x.addMember(member % 10, 1);
            x.setWind(member % 8, 0);
            eq(true, x.isConsistent());
            x.passShifts(1);
        }
        strike(x);
        x.passShifts(7);
        eq(true, x.isConsistent());
        x.undo();
        eq(true, x.isConsistent());
    }

    private static void testUndo() {
        promise = 55;
        VaneUnion x = new VaneUnion();
        for (int coins = 1; coins <= 12; coins++) {
            x.payIn(1);
        }
        for (int left = 7; left >= 0; left--) {
            eq(left, x.undo());
            eq(4 + left, x.fund());
        }
        refuses(STATE, () -> x.undo());
        eq(4, x.fund());
        x.payIn(10);
        x.payIn(10);
        eq(1, x.undo());
        x.payIn(100);
        eq(1, x.undo());
        eq(14, x.fund());
        eq(0, x.undo());
        eq(4, x.fund());
        refuses(STATE, () -> x.undo());
        for (int round = 0; round < 5; round++) {
            for (int i = 0; i < 9; i++) {
                x.payIn(1);
            }
            for (int left = 7; left >= 5; left--) {
                eq(left, x.undo());
            }
        }
        eq(34, x.fund());
        x.setWind(0, 0);
        eq(5, x.undo());
        run(x, "wind 0 0;wind 0 0;wind 0 0");
        eq(5, x.undo());
    }

    private static void testUndoOfEachChange() {
        promise = 55;
        VaneUnion x = new VaneUnion();
        x.addMember(1, 2);
        x.undo();
        eq(0, x.memberCount());
        x.addMember(1, 2);
        x.addMember(2, 2);
        x.addMember(3, 2);
        x.setWind(3, 4);
        x.undo();
        eq(0, x.windDirection());
        eq(0, x.windSpeed());
        x.setWind(3, 4);
        x.passShifts(2);
        x.undo();
        eq(0, x.shiftCount());
        eq(0, x.bearingOf(0));
        eq(0, x.wagesOf(0));
        eq(0, x.stepTotal());
        x.vote(0, true);
        x.vote(0, false);
        x.undo();
        eq(1, x.votesFor());
        x.undo();
        eq(false, x.hasVoted(0));
        strike(x);
        x.undo();
        eq(false, x.isOnStrike());
        eq(3, x.votesFor());
        eq(1, x.callStrike());
        x.payIn(5);
        x.undo();
        eq(0, x.fund());
        x.payIn(5);
        x.signUp(4, 0);
        x.undo();
        eq(0, x.listLength(4));
        x.signUp(4, 1);
        x.signUp(4, 2);
        x.signUp(4, 0);
        x.passShifts(1);
        checkList(x, 4, 0, 1, 2);
        x.undo();
        checkList(x, 4, 1, 2, 0);
        eq(0, x.dutiesOf(1));
        eq(0, x.supportOf(0));
        eq(0, x.lostTotal());
        eq(0, x.strikeShifts());
        eq(5, x.fund());
        x.strikeOff(1);
        x.undo();
        checkList(x, 4, 1, 2, 0);
        x.makeOffer(7);
        x.undo();
        refuses(ELEMENT, () -> x.offerPercent());
        x.makeOffer(7);
        x.accept(2);
        x.makeOffer(9);
        x.undo();
        eq(7, x.offerPercent());
        eq(1, x.acceptances());
        refuses(STATE, () -> x.accept(2));
        eq(true, x.accept(0));
        eq(1, x.settlementCount());
        x.undo();
        eq(0, x.settlementCount());
        eq(2, x.rateOf(0));
        eq(1, x.acceptances());
        eq(true, x.isOnStrike());
        checkList(x, 4, 1, 2, 0);
        x.undo();
        eq(0, x.acceptances());
    }

    /** The coins paid before a change tell whether undo brings back the books right before it. */
    private static void testUndoGoesBackOneChange() {
        promise = 55;
        Call[] changes = new Call[11];
        VaneUnion x = members(3);
        changes[0] = () -> x.addMember(0, 1);
        changes[1] = () -> x.setWind(1, 1);
        changes[2] = () -> x.passShifts(1);
        changes[3] = () -> x.payIn(500);
        changes[4] = () -> x.vote(0, true);
        changes[5] = () -> run(x, "vote 1+;vote 2+");
        changes[6] = () -> x.callStrike();
        changes[7] = () -> x.signUp(1, 1);
        changes[8] = () -> x.strikeOff(1);
        changes[9] = () -> x.makeOffer(3);
        changes[10] = () -> x.accept(1);
        for (Call change : changes) {
            for (int i = 0; i < 9; i++) {
                x.payIn(1);
            }
            int before = x.fund();
            change.make();
            eq(7, x.undo());
            eq(before, x.fund());
            change.make();
        }
    }

    private static void testSnapshot() {
        promise = 57;
        VaneUnion x = members(3);
        refuses(STATE, () -> x.restore());
        x.setWind(2, 3);
        x.passShifts(4);
        x.payIn(50);
        strike(x);
        x.signUp(5, 2);
        x.signUp(5, 1);
        x.signUp(5, 0);
        x.passShifts(1);
        x.makeOffer(20);
        x.accept(1);
        promise = 56;
        eq(3, x.save());
        promise = 57;
        x.accept(0);
        x.addMember(9, 9);
        x.setWind(7, 7);
        x.passShifts(9);
        x.vote(0, true);
        x.payIn(1);
        for (int round = 0; round < 2; round++) {
            eq(3, x.restore());
            refuses(STATE, () -> x.undo());
            eq(3, x.memberCount());
            eq(2, x.windDirection());
            eq(3, x.windSpeed());
            eq(5, x.shiftCount());
            eq(1, x.strikeShifts());
            eq(44, x.fund());
            eq(6, x.stepTotal());
            eq(24L, x.wageTotal());
            eq(3, x.lostTotal());
            eq(20, x.offerPercent());
            eq(1, x.acceptances());
            eq(0, x.settlementCount());
            eq(2, x.bearingOf(2));
            eq(3, x.rateOf(2));
            eq(2, x.supportOf(2));
            eq(1, x.dutiesOf(2));
            checkList(x, 5, 0, 2, 1);
            eq(true, x.accept(0));
            eq(0, x.undo());
        }
        x.accept(0);
        x.vote(2, true);
        x.addMember(4, 4);
        promise = 56;
        eq(4, x.save());
        x.vote(2, false);
        promise = 57;
        x.undo();
        x.undo();
        eq(3, x.memberCount());
        eq(4, x.restore());
        eq(1, x.votesFor());
        eq(1, x.settlementCount());
        x.vote(1, true);
        x.vote(0, true);
        eq(2, x.callStrike());
        promise = 56;
        VaneUnion empty = new VaneUnion();
        eq(0, empty.save());
        empty.addMember(1, 1);
        promise = 57;
        eq(0, empty.restore());
        promise = 56;
        empty.payIn(1);
        empty.save();
        eq(0, empty.undo());
        eq(0, empty.fund());
        empty.restore();
        eq(1, empty.fund());
    }

    private static void testWhatIsNeitherUndoneNorSaved() {
        promise = 55;
        VaneUnion x = members(1);
        write(x, "xy");
        refuses(ARGUMENT, () -> x.run());
        write(x, "pay 1;pay 0");
        refuses(STATE, () -> x.run());
        x.describeMember(0);
        x.save();
        write(x, "pay 1;strike");
        refuses(STATE, () -> x.run());
        write(x, "pay 1;;");
        refuses(ARGUMENT, () -> x.run());
        write(x, "pay 6");
        eq(0, x.undo());
        eq(6, x.errorPosition());
        eq(1, x.failedCommand());
        eq("m0@0a 0", line(x, 7));
        eq(6, x.append('7'));
        promise = 57;
        eq(1, x.restore());
        eq(6, x.errorPosition());
        eq(1, x.failedCommand());
        eq("m0@0a 0", line(x, 7));
        eq(7, x.append('8'));
        eq(1, x.run());
        eq(678, x.fund());
    }

    private static void testRefusedCallsAreNoChanges() {
        promise = 55;
        VaneUnion x = members(1);
        for (int i = 0; i < 7; i++) {
            x.payIn(1);
        }
        refuses(INDEX, () -> x.addMember(10, 1));
        refuses(ARGUMENT, () -> x.addMember(0, 0));
        refuses(ARGUMENT, () -> x.setWind(8, 0));
        refuses(ARGUMENT, () -> x.passShifts(0));
        refuses(INDEX, () -> x.vote(1, true));
        refuses(UNSUPPORTED, () -> x.callStrike());
        refuses(ARGUMENT, () -> x.payIn(0));
        refuses(STATE, () -> x.signUp(0, 0));
        refuses(ELEMENT, () -> x.strikeOff(0));
        refuses(STATE, () -> x.makeOffer(1));
        refuses(ELEMENT, () -> x.accept(0));
        refuses(ARGUMENT, () -> x.run());
        write(x, "pay 2;strike");
        refuses(STATE, () -> x.run());
        x.save();
        x.describeMember(0);
        for (int left = 7; left >= 0; left--) {
            eq(left, x.undo());
        }
        eq(0, x.memberCount());
    }
}
