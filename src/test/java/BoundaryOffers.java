/** Promises 37 to 46: a test of its own for each sentence that names a boundary case. */
public final class BoundaryOffers extends TestKit {
    private static final String NO_MEMBER = "Throws `IndexOutOfBoundsException` if there is no such member";
    private static final String NO_OFFER = "Throws `NoSuchElementException` if there is no offer";
    private static final String FIRST_LISTED = "If several exceptions apply, the exception listed first is thrown.";
    private static final String RAISED = "it is multiplied by 100 plus the percentage, and divided by 100, rounded up.";
    private static final String CAPPED = "Rates can become greater than 20 by this, but a rate that would be greater than 99 becomes 99.";
    /** A rate of 20 is 30, 40, 44, 66 after these settlements. */
    private static final int[] TO_66 = {50, 33, 10, 50};
    /** A rate of 20 is 30, 40, 60, 80 after these settlements. */
    private static final int[] TO_80 = {50, 33, 50, 33};

    public static void main(String[] args) {
        makeOfferTakes();
        makeOfferAnswers();
        makeOfferRefuses();
        acceptSettles();
        acceptSettlesGrownUnion();
        acceptRefuses();
        acceptedTwice();
        settlementRates();
        settlementLimit();
        settlementEnds();
        settlementKeeps();
        noOffer(39, x -> x.offerPercent());
        offerPercent();
        noOffer(40, x -> x.acceptances());
        acceptances();
        offeredRate();
        noOffer(41, x -> x.offeredRate(0));
        wageTotal();
        lostTotals();
        stepTotal();
        settlementCount();
        finish("BoundaryOffers");
    }

    private static VaneUnion withRates(int... rates) {
        VaneUnion x = new VaneUnion();
        for (int rate : rates) {
            x.addMember(0, rate);
        }
        return x;
    }

    private static VaneUnion raised(int rate, int... percents) {
        VaneUnion x = withRates(rate);
        for (int percent : percents) {
            strike(x);
            settle(x, percent);
        }
        return x;
    }

    private static VaneUnion settled() {
        VaneUnion x = onStrike(3);
        settle(x, 20);
        return x;
    }

    private static void makeOfferTakes() {
        sentence(37, "`percent`: the percentage, 1 to 50", () -> {
            VaneUnion x = onStrike(1);
            for (int percent : new int[] {1, 2, 49, 50}) {
                x.makeOffer(percent);
                eq(percent, x.offerPercent());
            }
        });
        sentence(37, "Makes an offer, which replaces an earlier one.", () -> {
            VaneUnion x = withOffer(1, 50);
            x.makeOffer(1);
            eq(1, x.offerPercent());
            x.accept(0);
            eq(2, x.rateOf(0));
            VaneUnion y = raised(20);
            strike(y);
            y.makeOffer(1);
            y.makeOffer(50);
            y.accept(0);
            eq(30, y.rateOf(0));
        });
    }

    private static void makeOfferAnswers() {
        sentence(37, "Returns the number of acceptances that are removed.", () -> {
            VaneUnion x = onStrike(12);
            eq(0, x.makeOffer(5));
            eq(0, x.makeOffer(5));
            for (int member = 0; member < 6; member++) {
                x.accept(11 - member);
            }
            eq(6, x.makeOffer(5));
            eq(0, x.makeOffer(5));
            settle(x, 5);
            strike(x);
            eq(0, x.makeOffer(5));
        });
        sentence(37, "All acceptances are removed.", () -> {
            VaneUnion x = withOffer(4, 5);
            x.accept(0);
            x.accept(3);
            x.makeOffer(5);
            eq(0, x.acceptances());
            eq(false, x.accept(3));
            eq(false, x.accept(0));
            eq(true, x.accept(1));
        });
    }

    private static void makeOfferRefuses() {
        sentence(37, "Throws `IllegalArgumentException` if the percentage is not from 1 to 50", () -> {
            NumberUse use = (x, percent) -> x.makeOffer(percent);
            refusedFor(ARGUMENT, () -> onStrike(3), use, 0, 51, -1, 100, LEAST, MOST);
            refusedFor(ARGUMENT, () -> {
                VaneUnion x = withOffer(3, 10);
                x.accept(1);
                return x;
            }, use, 0, 51, LEAST, MOST);
        });
        sentence(37, "Throws `IllegalStateException` if there is no strike", () -> {
            refused(STATE, () -> new VaneUnion(), x -> x.makeOffer(1));
            refused(STATE, () -> members(3), x -> x.makeOffer(1), x -> x.makeOffer(50));
            refused(STATE, () -> settled(), x -> x.makeOffer(10));
        });
        sentence(37, FIRST_LISTED, () -> {
            refused(ARGUMENT, () -> members(3), x -> x.makeOffer(0), x -> x.makeOffer(51));
        });
    }

    private static void acceptSettles() {
        sentence(38, "If twice the number of acceptances is greater than the number of members then, the strike is settled.", () -> {
            for (int count = 1; count <= 12; count++) {
                VaneUnion x = withOffer(count, 10);
                for (int member = 0; member < count / 2; member++) {
                    eq(false, x.accept(member));
                    eq(true, x.isOnStrike());
                    eq(member + 1, x.acceptances());
                }
                eq(true, x.accept(count - 1));
                eq(false, x.isOnStrike());
                eq(1, x.settlementCount());
            }
        });
    }

    private static void acceptSettlesGrownUnion() {
        sentence(38, "the number of members then", () -> {
            VaneUnion x = withOffer(2, 10);
            eq(false, x.accept(0));
            x.addMember(0, 1);
            x.addMember(0, 1);
            eq(false, x.accept(1));
            eq(true, x.accept(3));
            VaneUnion one = withOffer(1, 10);
            one.addMember(0, 1);
            eq(false, one.accept(1));
            eq(true, one.accept(0));
        });
    }

    private static void acceptRefuses() {
        noSuchMember(38, NO_MEMBER, (x, member) -> x.accept(member));
        sentence(38, NO_MEMBER, () -> {
            refusedFor(INDEX, () -> withOffer(3, 10), (x, member) -> x.accept(member), -1, 3, 12, LEAST, MOST);
        });
        sentence(38, NO_OFFER, () -> {
            refused(ELEMENT, () -> members(3), x -> x.accept(0));
            refused(ELEMENT, () -> onStrike(3), x -> x.accept(0), x -> x.accept(2));
            refused(ELEMENT, () -> settled(), x -> x.accept(0), x -> x.accept(2));
            VaneUnion x = settled();
            strike(x);
            refuses(ELEMENT, () -> x.accept(0));
        });
        sentence(38, FIRST_LISTED, () -> {
            refused(INDEX, () -> onStrike(3), x -> x.accept(3), x -> x.accept(-1));
            refused(ELEMENT, () -> settled(), x -> x.accept(0));
        });
    }

    private static void acceptedTwice() {
        sentence(38, "Throws `IllegalStateException` if the member has accepted the offer", () -> {
            Ready ready = () -> {
                VaneUnion x = withOffer(12, 10);
                x.accept(0);
                x.accept(11);
                return x;
            };
            refused(STATE, ready, x -> x.accept(0), x -> x.accept(11));
            VaneUnion x = ready.make();
            x.undo();
            eq(false, x.accept(11));
            refuses(STATE, () -> x.accept(11));
            settle(x, 10);
            strike(x);
            x.makeOffer(10);
            eq(false, x.accept(11));
        });
    }

    private static void settlementRates() {
        sentence(38, RAISED, () -> {
            int[][] rows = {
                {1, 1, 2}, {1, 50, 2}, {2, 50, 3}, {20, 50, 30}, {20, 1, 21}, {20, 5, 21}, {20, 6, 22}, {10, 10, 11},
                {10, 11, 12}, {10, 9, 11}, {4, 25, 5}, {4, 26, 6}, {4, 24, 5}, {3, 33, 4}, {3, 34, 5}, {19, 50, 29},
            };
            for (int[] row : rows) {
                eq(row[2], raised(row[0], row[1]).rateOf(0));
            }
        });
        sentence(38, "When a strike is settled, the rate of each member increases by the percentage of the offer", () -> {
            VaneUnion x = onStrike(11);
            x.addMember(0, 20);
            settle(x, 50);
            int[] due = {2, 3, 5, 6, 8, 9, 11, 12, 14, 15, 17, 30};
            for (int member = 0; member < 12; member++) {
                eq(due[member], x.rateOf(member));
            }
        });
    }

    private static void settlementLimit() {
        sentence(38, CAPPED, () -> {
            VaneUnion x = raised(20, TO_66);
            eq(66, x.rateOf(0));
            strike(x);
            settle(x, 50);
            eq(99, x.rateOf(0));
            strike(x);
            settle(x, 1);
            eq(99, x.rateOf(0));
            VaneUnion y = raised(20, TO_80);
            eq(80, y.rateOf(0));
            strike(y);
            settle(y, 25);
            eq(99, y.rateOf(0));
            eq(98, raised(20, 50, 33, 10, 50, 48).rateOf(0));
            eq(99, raised(20, 50, 33, 10, 50, 48, 1).rateOf(0));
            eq(99, raised(20, 50, 33, 10, 50, 49, 50).rateOf(0));
        });
    }

    private static void settlementEnds() {
        sentence(38, "The strike ends, there are no votes and no offer any longer, and all picket lists become empty.", () -> {
            VaneUnion x = onStrike(12);
            for (int member = 0; member < 12; member++) {
                x.signUp(member % 10, member);
            }
            x.passShifts(1);
            settle(x, 7);
            eq(false, x.isOnStrike());
            eq(0, x.votesFor());
            refuses(ELEMENT, () -> x.offerPercent());
            for (int roof = 0; roof < 10; roof++) {
                eq(0, x.listLength(roof));
            }
            for (int member = 0; member < 12; member++) {
                int listed = member;
                eq(false, x.hasVoted(member));
                refuses(ELEMENT, () -> x.listOf(listed));
            }
            strike(x);
            eq(1, x.signUp(0, 10));
            refuses(ELEMENT, () -> x.offerPercent());
            eq(0, x.makeOffer(1));
            eq(0, x.acceptances());
        });
    }

    private static void settlementKeeps() {
        sentence(38, "Returns whether the strike is settled.", () -> {
            VaneUnion x = withFund(3, 11);
            x.setWind(2, 1);
            x.passShifts(1);
            strike(x);
            x.signUp(5, 1);
            x.passShifts(1);
            x.makeOffer(50);
            eq(false, x.accept(1));
            eq("m1@1c 2+2-1!", describe(x, 1));
            eq(true, x.accept(2));
            eq("m1@1c 2+2-1", describe(x, 1));
            eq(1, x.dutiesOf(1));
            eq(5, x.fund());
            eq(2, x.shiftCount());
            eq(2, x.windDirection());
            eq(1, x.windSpeed());
        });
    }

    /** No offer stands before the first, after a settlement, in a strike after it, or where it was undone. */
    private static void noOffer(int promiseOfQuery, Use query) {
        sentence(promiseOfQuery, NO_OFFER, () -> {
            refused(ELEMENT, () -> members(3), query);
            refused(ELEMENT, () -> onStrike(3), query);
            refused(ELEMENT, () -> settled(), query);
            refused(ELEMENT, () -> {
                VaneUnion x = settled();
                strike(x);
                return x;
            }, query);
            refused(ELEMENT, () -> {
                VaneUnion x = withOffer(3, 10);
                x.undo();
                return x;
            }, query);
        });
    }

    private static void offerPercent() {
        sentence(39, "Returns the percentage of the offer.", () -> {
            eq(1, withOffer(1, 1).offerPercent());
            eq(50, withOffer(12, 50).offerPercent());
            VaneUnion x = withOffer(3, 50);
            x.accept(0);
            x.makeOffer(1);
            eq(1, x.offerPercent());
            refuses(ARGUMENT, () -> x.makeOffer(51));
            eq(1, x.offerPercent());
        });
        sentence(39, NO_OFFER, () -> refused(ELEMENT, () -> new VaneUnion(), x -> x.offerPercent()));
    }

    private static void acceptances() {
        sentence(40, "Returns the number of acceptances of the offer.", () -> {
            VaneUnion x = withOffer(12, 5);
            eq(0, x.acceptances());
            for (int count = 1; count <= 6; count++) {
                x.accept(12 - count);
                eq(count, x.acceptances());
            }
            refuses(STATE, () -> x.accept(11));
            eq(6, x.acceptances());
            x.makeOffer(5);
            eq(0, x.acceptances());
        });
        sentence(40, NO_OFFER, () -> refused(ELEMENT, () -> new VaneUnion(), x -> x.acceptances()));
    }

    private static void offeredRate() {
        noSuchMember(41, NO_MEMBER, (x, member) -> x.offeredRate(member));
        sentence(41, NO_MEMBER, () -> {
            refusedFor(INDEX, () -> withOffer(3, 10), (x, member) -> x.offeredRate(member), -1, 3, 12, LEAST, MOST);
        });
        sentence(41, "Returns the rate that a member would have after a settlement by the offer.", () -> {
            VaneUnion x = withRates(1, 20, 10, 3, 4);
            strike(x);
            int[][] rows = {{1, 2, 21, 11, 4, 5}, {50, 2, 30, 15, 5, 6}, {10, 2, 22, 11, 4, 5}, {34, 2, 27, 14, 5, 6}};
            for (int[] row : rows) {
                x.makeOffer(row[0]);
                for (int member = 0; member < 5; member++) {
                    eq(row[member + 1], x.offeredRate(member));
                }
            }
            eq(20, x.rateOf(1));
        });
        sentence(41, CAPPED, () -> {
            VaneUnion x = raised(20, TO_66);
            strike(x);
            x.makeOffer(49);
            eq(99, x.offeredRate(0));
            x.makeOffer(48);
            eq(98, x.offeredRate(0));
            x.makeOffer(50);
            eq(99, x.offeredRate(0));
            VaneUnion y = raised(20, TO_80);
            strike(y);
            y.makeOffer(24);
            eq(99, y.offeredRate(0));
            y.makeOffer(23);
            eq(99, y.offeredRate(0));
            y.makeOffer(22);
            eq(98, y.offeredRate(0));
            y.makeOffer(50);
            eq(99, y.offeredRate(0));
            eq(80, y.rateOf(0));
        });
        sentence(41, FIRST_LISTED, () -> {
            refused(INDEX, () -> members(3), x -> x.offeredRate(3), x -> x.offeredRate(-1));
        });
    }

    private static void wageTotal() {
        sentence(42, "Returns the sum of the wages of all members so far.", () -> {
            VaneUnion x = new VaneUnion();
            eq(0L, x.wageTotal());
            x.setWind(0, 1);
            x.passShifts(30);
            eq(0L, x.wageTotal());
            for (int member = 0; member < 12; member++) {
                x.addMember(9, 20);
            }
            x.passShifts(30);
            eq(7200L, x.wageTotal());
            strike(x);
            x.passShifts(30);
            eq(7200L, x.wageTotal());
        });
    }

    private static void lostTotals() {
        for (int promiseOfQuery = 43; promiseOfQuery <= 44; promiseOfQuery++) {
            Use query = promiseOfQuery == 43 ? x -> x.lostTotal() : x -> x.lostTotalByRoofs();
            String saying = promiseOfQuery == 43
                    ? "Returns the number of shifts that all members have lost so far, added member by member."
                    : "Returns the same number as lostTotal(), added roof by roof.";
            sentence(promiseOfQuery, saying, () -> {
                eq(0, query.of(new VaneUnion()));
                VaneUnion x = onStrike(12);
                eq(0, query.of(x));
                x.passShifts(30);
                eq(360, query.of(x));
                settle(x, 1);
                x.passShifts(30);
                eq(360, query.of(x));
                VaneUnion ends = withRates(1);
                ends.addMember(9, 1);
                strike(ends);
                ends.passShifts(1);
                eq(2, query.of(ends));
                ends.addMember(5, 1);
                eq(2, query.of(ends));
                ends.passShifts(1);
                eq(5, query.of(ends));
            });
        }
    }

    private static void stepTotal() {
        sentence(45, "Returns the number of steps that members have turned so far.", () -> {
            VaneUnion x = new VaneUnion();
            eq(0, x.stepTotal());
            x.setWind(4, 1);
            x.passShifts(30);
            eq(0, x.stepTotal());
            for (int member = 0; member < 12; member++) {
                x.addMember(0, 1);
            }
            eq(0, x.stepTotal());
            x.passShifts(30);
            eq(48, x.stepTotal());
            x.setWind(7, 0);
            eq(48, x.stepTotal());
            strike(x);
            x.passShifts(30);
            eq(48, x.stepTotal());
            settle(x, 1);
            x.passShifts(1);
            eq(84, x.stepTotal());
            x.undo();
            eq(48, x.stepTotal());
        });
    }

    private static void settlementCount() {
        sentence(46, "Returns the number of strikes settled so far.", () -> {
            VaneUnion x = members(2);
            eq(0, x.settlementCount());
            for (int count = 1; count <= 5; count++) {
                strike(x);
                eq(count - 1, x.settlementCount());
                x.makeOffer(1);
                x.accept(1);
                eq(count - 1, x.settlementCount());
                x.accept(0);
                eq(count, x.settlementCount());
            }
            x.undo();
            eq(4, x.settlementCount());
        });
    }
}
