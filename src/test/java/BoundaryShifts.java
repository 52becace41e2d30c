/** Promises 14 to 21: a test of its own for each sentence that names a boundary case. */
public final class BoundaryShifts extends TestKit {
    private static final String NO_MEMBER = "Throws `IndexOutOfBoundsException` if there is no such member";
    private static final String SHORTER = "The number of steps between two of them is the length of the shorter way round the circle.";
    private static final String CIRCLE = "Bearings and directions of the wind are in a circle: 0 follows 7.";
    /** The steps to a direction so many further on. */
    private static final int[] WAY = {0, 1, 2, 3, 4, 3, 2, 1};

    public static void main(String[] args) {
        setWindTakes();
        setWindAnswers();
        setWindRefuses();
        windQueries();
        stepsToWind();
        passShiftsTakes();
        passShiftsRefuses();
        turning();
        earning();
        strikeShift();
        supportOfOneShift();
        supportOfManyShifts();
        picketLists();
        manyPicketLists();
        allTakePart();
        shiftCount();
        lastCall();
        day();
        finish("BoundaryShifts");
    }

    private static VaneUnion turnedTo(int bearing) {
        VaneUnion x = members(1);
        x.setWind(bearing, 0);
        x.passShifts(1);
        return x;
    }

    private static void setWindTakes() {
        sentence(14, "`direction`: the new direction, 0 to 7", () -> {
            VaneUnion x = new VaneUnion();
            for (int direction : new int[] {7, 0, 1, 6, 7}) {
                x.setWind(direction, 3);
                eq(direction, x.windDirection());
            }
        });
        sentence(14, "`speed`: the new speed, 0 to 12", () -> {
            VaneUnion x = new VaneUnion();
            for (int speed : new int[] {12, 0, 1, 11, 12}) {
                x.setWind(3, speed);
                eq(speed, x.windSpeed());
            }
        });
    }

    private static void setWindAnswers() {
        sentence(14, "Returns the number of steps between the previous and the new direction, the shorter way round.", () -> {
            for (int from = 0; from < 8; from++) {
                for (int to = 0; to < 8; to++) {
                    VaneUnion x = new VaneUnion();
                    eq(WAY[from], x.setWind(from, 5));
                    eq(WAY[(to - from + 8) % 8], x.setWind(to, 0));
                }
            }
        });
        sentence(14, CIRCLE, () -> {
            VaneUnion x = new VaneUnion();
            eq(1, x.setWind(7, 0));
            eq(1, x.setWind(0, 0));
            eq(2, x.setWind(6, 0));
            eq(3, x.setWind(1, 0));
        });
    }

    private static void setWindRefuses() {
        sentence(14, "Throws `IllegalArgumentException` if the direction or the speed is out of range", () -> {
            Ready ready = () -> turnedTo(3);
            refusedFor(ARGUMENT, ready, (x, direction) -> x.setWind(direction, 5), -1, 8, 9, LEAST, MOST);
            refusedFor(ARGUMENT, ready, (x, speed) -> x.setWind(5, speed), -1, 13, 14, LEAST, MOST);
            refused(ARGUMENT, ready, x -> x.setWind(8, 13), x -> x.setWind(-1, -1), x -> x.setWind(-1, 0),
                    x -> x.setWind(8, 12), x -> x.setWind(0, 13), x -> x.setWind(7, -1));
            refused(ARGUMENT, () -> new VaneUnion(), x -> x.setWind(8, 0), x -> x.setWind(0, 13));
        });
    }

    private static void windQueries() {
        sentence(15, "The wind has a direction from 0 to 7 and a speed from 0 to 12, both initially 0.", () -> {
            VaneUnion x = new VaneUnion();
            eq(0, x.windDirection());
            x.setWind(7, 1);
            eq(7, x.windDirection());
            x.passShifts(1);
            x.setWind(0, 1);
            eq(0, x.windDirection());
        });
        sentence(16, "The wind has a direction from 0 to 7 and a speed from 0 to 12, both initially 0.", () -> {
            VaneUnion x = new VaneUnion();
            eq(0, x.windSpeed());
            x.setWind(1, 12);
            eq(12, x.windSpeed());
            x.passShifts(1);
            x.setWind(1, 0);
            eq(0, x.windSpeed());
        });
    }

    private static void stepsToWind() {
        for (int promiseOfQuery = 17; promiseOfQuery <= 18; promiseOfQuery++) {
            NumberUse query = promiseOfQuery == 17
                    ? (x, member) -> x.stepsToWind(member)
                    : (x, member) -> x.stepsToWindByTurning(member);
            sentence(promiseOfQuery, SHORTER, () -> {
                for (int from = 0; from < 8; from++) {
                    for (int to = 0; to < 8; to++) {
                        VaneUnion x = turnedTo(from);
                        x.setWind(to, 12);
                        eq(WAY[(to - from + 8) % 8], query.of(x, 0));
                        eq(from, x.bearingOf(0));
                    }
                }
            });
            sentence(promiseOfQuery, CIRCLE, () -> {
                VaneUnion x = turnedTo(7);
                x.setWind(0, 0);
                eq(1, query.of(x, 0));
                x.addMember(0, 1);
                x.setWind(7, 0);
                eq(0, query.of(x, 0));
                eq(1, query.of(x, 1));
                x.setWind(3, 0);
                eq(4, query.of(x, 0));
                eq(3, query.of(x, 1));
            });
            noSuchMember(promiseOfQuery, NO_MEMBER, query);
        }
        sentence(17, "Returns the number of steps, 0 to 4.", () -> {
            VaneUnion x = members(12);
            eq(0, x.stepsToWind(0));
            x.setWind(4, 0);
            eq(4, x.stepsToWind(0));
            eq(4, x.stepsToWind(11));
        });
    }

    private static void passShiftsTakes() {
        sentence(19, "`shifts`: the number of shifts, 1 to 30", () -> {
            VaneUnion x = members(1);
            x.setWind(0, 1);
            for (int shifts : new int[] {1, 2, 29, 30}) {
                int before = x.shiftCount();
                eq(0, x.passShifts(shifts));
                eq(before + shifts, x.shiftCount());
                eq(before + shifts, x.wagesOf(0));
            }
        });
        sentence(19, "Returns the number of steps that members turn in these shifts.", () -> {
            VaneUnion none = new VaneUnion();
            none.setWind(4, 1);
            eq(0, none.passShifts(30));
            VaneUnion x = members(12);
            eq(0, x.passShifts(1));
            x.setWind(4, 0);
            eq(48, x.passShifts(30));
            eq(0, x.passShifts(1));
            VaneUnion two = turnedTo(6);
            two.addMember(0, 1);
            two.setWind(1, 1);
            eq(3 + 1, two.passShifts(2));
        });
    }

    private static void passShiftsRefuses() {
        sentence(19, "Throws `IllegalArgumentException` if the number is not from 1 to 30", () -> {
            NumberUse use = (x, shifts) -> x.passShifts(shifts);
            refusedFor(ARGUMENT, () -> new VaneUnion(), use, 0, 31, -1, LEAST, MOST);
            refusedFor(ARGUMENT, () -> {
                VaneUnion x = members(3);
                x.setWind(3, 3);
                return x;
            }, use, 0, 31, 32, -1, LEAST, MOST);
            refusedFor(ARGUMENT, () -> onStrike(3), use, 0, 31, -1, LEAST, MOST);
        });
    }

    private static void turning() {
        sentence(19, "each member turns to the direction of the wind the shorter way round, also if the speed of the wind is 0", () -> {
            VaneUnion x = members(2);
            x.setWind(7, 0);
            eq(2, x.passShifts(1));
            eq(7, x.bearingOf(0));
            eq(7, x.bearingOf(1));
            x.setWind(0, 12);
            eq(2, x.passShifts(1));
            eq(0, x.bearingOf(0));
        });
        sentence(19, "Turning makes as many steps as there are between the bearing and the direction.", () -> {
            for (int from = 0; from < 8; from++) {
                for (int to = 0; to < 8; to++) {
                    VaneUnion x = turnedTo(from);
                    x.setWind(to, 0);
                    eq(WAY[(to - from + 8) % 8], x.passShifts(1));
                    eq(WAY[from] + WAY[(to - from + 8) % 8], x.stepTotal());
                }
            }
        });
    }

    private static void earning() {
        sentence(19, "earns its rate as wages if the speed of the wind is at least 1", () -> {
            VaneUnion x = members(12);
            x.passShifts(30);
            eq(0L, x.wageTotal());
            x.setWind(0, 1);
            x.passShifts(1);
            for (int member = 0; member < 12; member++) {
                eq(member + 1, x.wagesOf(member));
            }
            x.setWind(0, 12);
            x.passShifts(1);
            eq(24, x.wagesOf(11));
            x.setWind(5, 0);
            x.passShifts(1);
            eq(24, x.wagesOf(11));
        });
    }

    private static void strikeShift() {
        sentence(19, "Each member loses a shift; no member turns or earns wages.", () -> {
            VaneUnion x = members(12);
            x.setWind(4, 12);
            strike(x);
            eq(0, x.passShifts(1));
            for (int member = 0; member < 12; member++) {
                eq(1, x.lostShifts(member));
                eq(0, x.bearingOf(member));
                eq(0, x.wagesOf(member));
            }
            eq(0, x.passShifts(30));
            eq(31, x.lostShifts(11));
            eq(0, x.stepTotal());
            settle(x, 1);
            eq(48, x.passShifts(1));
            eq(31, x.lostShifts(0));
        });
        sentence(19, "When a shift passes in a strike, the following steps are carried out in this order instead.", () -> {
            VaneUnion x = withFund(2, 9);
            x.setWind(3, 3);
            eq(6, x.passShifts(1));
            eq(0, x.lostTotal());
            eq(9, x.fund());
            strike(x);
            x.signUp(0, 1);
            x.passShifts(1);
            eq(2, x.lostTotal());
            eq(5, x.fund());
            eq(1, x.dutiesOf(1));
            eq(3L, x.wageTotal());
            settle(x, 1);
            x.passShifts(1);
            eq(2, x.lostTotal());
            eq(5, x.fund());
            eq(1, x.dutiesOf(1));
            eq(3L + 2L + 3L, x.wageTotal());
        });
    }

    private static void supportOfOneShift() {
        sentence(19, "Each visited member gets 2 coins of support from the fund if the fund has at least 2 coins.", () -> {
            int[][] due = {{0, 0, 0}, {0, 0, 0}, {2, 0, 0}, {2, 0, 0}, {2, 2, 0}, {2, 2, 0}, {2, 2, 2}, {2, 2, 2}};
            for (int coins = 0; coins < due.length; coins++) {
                VaneUnion x = withFund(3, coins);
                strike(x);
                x.passShifts(1);
                checkSupport(x, due[coins]);
                eq(Math.max(coins - 6, coins % 2), x.fund());
            }
        });
        sentence(19, "The members are visited in ascending order of their numbers.", () -> {
            VaneUnion x = withFund(12, 23);
            strike(x);
            x.signUp(0, 11);
            x.passShifts(1);
            checkSupport(x, 2, 2, 2, 2, 2, 2, 2, 2, 2, 2, 2, 0);
            eq(1, x.fund());
            x.payIn(1);
            x.passShifts(1);
            checkSupport(x, 4, 2, 2, 2, 2, 2, 2, 2, 2, 2, 2, 0);
            eq(0, x.fund());
        });
    }

    private static void supportOfManyShifts() {
        sentence(19, "Lets shifts pass.", () -> {
            VaneUnion x = withFund(3, 17);
            strike(x);
            x.passShifts(30);
            checkSupport(x, 6, 6, 4);
            eq(1, x.fund());
            eq(30, x.lostShifts(2));
            VaneUnion rich = withFund(12, 9999);
            strike(rich);
            rich.passShifts(30);
            eq(60, rich.supportOf(0));
            eq(60, rich.supportOf(11));
            eq(9999 - 720, rich.fund());
        });
    }

    private static void picketLists() {
        sentence(19, "For each roof, the first two members on its picket list, or the only one, have a picket duty", () -> {
            VaneUnion x = onStrike(5);
            x.passShifts(1);
            checkDuties(x, 0, 0, 0, 0, 0);
            x.signUp(0, 3);
            x.passShifts(1);
            checkDuties(x, 0, 0, 0, 1, 0);
            x.signUp(0, 1);
            x.passShifts(1);
            checkDuties(x, 0, 1, 0, 2, 0);
            x.signUp(0, 4);
            x.passShifts(1);
            checkDuties(x, 0, 2, 0, 3, 0);
            x.signUp(0, 0);
            // The list is 4 3 1 0 now.
            x.passShifts(1);
            checkDuties(x, 0, 2, 0, 4, 1);
            x.passShifts(1);
            checkDuties(x, 1, 3, 0, 4, 1);
        });
        sentence(19, "and move to the end of the list, keeping their order.", () -> {
            int[][][] due = {
                {{2}, {2}, {2}},
                {{2, 0}, {2, 0}, {2, 0}},
                {{2, 0, 3}, {3, 2, 0}, {0, 3, 2}, {2, 0, 3}},
                {{2, 0, 3, 1}, {3, 1, 2, 0}, {2, 0, 3, 1}},
            };
            for (int[][] lists : due) {
                VaneUnion x = onStrike(4);
                for (int member : lists[0]) {
                    x.signUp(9, member);
                }
                for (int[] list : lists) {
                    checkList(x, 9, list);
                    x.passShifts(1);
                }
            }
        });
    }

    private static void manyPicketLists() {
        sentence(19, "For each roof", () -> {
            VaneUnion x = onStrike(12);
            for (int roof = 0; roof < 10; roof++) {
                x.signUp(roof, 11 - roof);
            }
            x.signUp(0, 0);
            x.signUp(9, 1);
            x.passShifts(30);
            checkDuties(x, 30, 30, 30, 30, 30, 30, 30, 30, 30, 30, 30, 30);
            checkList(x, 0, 11, 0);
            checkList(x, 1, 10);
            checkList(x, 9, 2, 1);
            VaneUnion three = onStrike(12);
            for (int member = 0; member < 12; member++) {
                three.signUp(member % 3 * 4, member);
            }
            three.passShifts(3);
            checkList(three, 0, 6, 9, 0, 3);
            checkList(three, 4, 7, 10, 1, 4);
            checkList(three, 8, 8, 11, 2, 5);
            checkDuties(three, 2, 2, 2, 2, 2, 2, 1, 1, 1, 1, 1, 1);
        });
    }

    private static void allTakePart() {
        sentence(19, "all members take part in it, also those that are added during it.", () -> {
            VaneUnion x = withFund(2, 999);
            strike(x);
            x.passShifts(1);
            x.setWind(5, 5);
            eq(2, x.addMember(0, 20));
            x.signUp(4, 2);
            eq(0, x.passShifts(1));
            eq(1, x.lostShifts(2));
            eq(2, x.lostShifts(0));
            eq(2, x.supportOf(2));
            eq(1, x.dutiesOf(2));
            eq(0, x.bearingOf(2));
            eq(0, x.wagesOf(2));
            settle(x, 10);
            eq(22, x.rateOf(2));
        });
    }

    private static void shiftCount() {
        sentence(20, "Returns the number of shifts that have passed.", () -> {
            VaneUnion x = new VaneUnion();
            eq(0, x.shiftCount());
            x.passShifts(1);
            eq(1, x.shiftCount());
            x.passShifts(30);
            eq(31, x.shiftCount());
            x.addMember(0, 1);
            strike(x);
            x.passShifts(30);
            eq(61, x.shiftCount());
            refuses(ARGUMENT, () -> x.passShifts(31));
            eq(61, x.shiftCount());
        });
    }

    /** The 512th call is the last one whose answer is told. */
    private static void lastCall() {
        sentence(20, "An object is used for at most 512 calls after it has been made", () -> {
            VaneUnion x = new VaneUnion();
            for (int call = 1; call <= 511; call++) {
                x.passShifts(30);
            }
            eq(15330, x.shiftCount());
            VaneUnion earning = members(12);
            earning.setWind(0, 1);
            for (int call = 14; call <= 511; call++) {
                earning.passShifts(30);
            }
            eq(30L * 498 * 78, earning.wageTotal());
            VaneUnion paying = new VaneUnion();
            for (int call = 1; call <= 511; call++) {
                paying.payIn(1);
            }
            eq(512, paying.payIn(1));
        });
    }

    private static void day() {
        sentence(21, "the number of shifts that have passed divided by 3, rounded down", () -> {
            VaneUnion x = new VaneUnion();
            eq(0, x.day());
            for (int shifts = 1; shifts <= 31; shifts++) {
                x.passShifts(1);
                eq(shifts / 3, x.day());
            }
        });
        sentence(21, "Three shifts are a day.", () -> {
            VaneUnion x = new VaneUnion();
            x.passShifts(2);
            eq(0, x.day());
            x.passShifts(1);
            eq(1, x.day());
            x.addMember(0, 1);
            strike(x);
            x.passShifts(2);
            eq(1, x.day());
            x.passShifts(1);
            eq(2, x.day());
        });
    }
}
