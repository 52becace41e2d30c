/** Promises 32 to 36: a test of its own for each sentence that names a boundary case. */
public final class BoundaryPickets extends TestKit {
    private static final String NO_MEMBER = "Throws `IndexOutOfBoundsException` if there is no such member";
    private static final String NO_ROOF = "Throws `IndexOutOfBoundsException` if there is no such roof";
    private static final String NO_ROOF_OR_MEMBER = "Throws `IndexOutOfBoundsException` if there is no such roof or member";
    private static final String NO_STRIKE_OR_FULL = "Throws `IllegalStateException` if there is no strike, or 4 members are on the list";
    private static final String ON_NO_LIST = "Throws `NoSuchElementException` if the member is on no picket list";
    private static final String FIRST_LISTED = "If several exceptions apply, the exception listed first is thrown.";

    public static void main(String[] args) {
        signUpTakes();
        signUpRefusesIndices();
        signUpRefusesStates();
        signUpRefusesListed();
        strikeOffTakes();
        strikeOffRefuses();
        listLength();
        listedAtTakes();
        listedAtRefuses();
        listOf();
        finish("BoundaryPickets");
    }

    private static VaneUnion listed(int count, int roof, int... members) {
        VaneUnion x = onStrike(count);
        for (int member : members) {
            x.signUp(roof, member);
        }
        return x;
    }

    private static VaneUnion settledAfterListing() {
        VaneUnion x = listed(3, 9, 1, 0);
        x.signUp(0, 2);
        settle(x, 1);
        return x;
    }

    private static void signUpTakes() {
        sentence(32, "Signs a member up at the end of the picket list of a roof, which need not be the roof of the member.", () -> {
            VaneUnion x = listed(5, 9, 3, 0, 4);
            checkList(x, 9, 3, 0, 4);
            x.signUp(9, 1);
            checkList(x, 9, 3, 0, 4, 1);
            eq(1, x.signUp(2, 2));
            checkList(x, 2, 2);
            VaneUnion turned = listed(5, 9, 3, 0, 4);
            turned.passShifts(1);
            turned.signUp(9, 1);
            checkList(turned, 9, 4, 3, 0, 1);
        });
        sentence(32, "Returns the number of members on the list after the call.", () -> {
            VaneUnion x = onStrike(12);
            eq(1, x.signUp(0, 0));
            eq(1, x.signUp(9, 11));
            eq(2, x.signUp(0, 10));
            eq(3, x.signUp(0, 5));
            eq(4, x.signUp(0, 1));
            eq(2, x.signUp(9, 2));
        });
        sentence(32, "`roof`: the roof, 0 to 9", () -> {
            VaneUnion x = onStrike(12);
            for (int roof = 0; roof < 10; roof++) {
                eq(1, x.signUp(roof, 11 - roof));
                eq(roof, x.listOf(11 - roof));
            }
        });
    }

    private static void signUpRefusesIndices() {
        noSuchRoof(32, NO_ROOF_OR_MEMBER, (x, roof) -> x.signUp(roof, 0));
        noSuchMember(32, NO_ROOF_OR_MEMBER, (x, member) -> x.signUp(0, member));
        sentence(32, NO_ROOF_OR_MEMBER, () -> {
            refusedFor(INDEX, () -> onStrike(3), (x, member) -> x.signUp(9, member), -1, 3, 12, LEAST, MOST);
            refusedFor(INDEX, () -> onStrike(3), (x, roof) -> x.signUp(roof, 2), NO_ROOFS);
            refused(INDEX, () -> onStrike(3), x -> x.signUp(10, 3), x -> x.signUp(-1, -1));
        });
        sentence(32, FIRST_LISTED, () -> {
            refused(INDEX, () -> members(3), x -> x.signUp(10, 0), x -> x.signUp(0, 3));
            refused(INDEX, () -> listed(6, 4, 0, 1, 2, 3), x -> x.signUp(4, 6), x -> x.signUp(10, 0));
            refused(STATE, () -> listed(6, 4, 0, 1, 2, 3), x -> x.signUp(4, 0), x -> x.signUp(4, 3));
            VaneUnion x = listed(6, 4, 0, 1, 2, 3);
            x.signUp(5, 4);
            refuses(STATE, () -> x.signUp(4, 4));
        });
    }

    private static void signUpRefusesStates() {
        sentence(32, NO_STRIKE_OR_FULL, () -> {
            refused(STATE, () -> members(3), x -> x.signUp(0, 0), x -> x.signUp(9, 2));
            refused(STATE, () -> settledAfterListing(), x -> x.signUp(9, 1));
        });
        sentence(32, "Each roof has a picket list of at most 4 members.", () -> {
            refused(STATE, () -> listed(6, 0, 5, 4, 3, 2), x -> x.signUp(0, 1));
            refused(STATE, () -> listed(12, 9, 0, 1, 2, 11), x -> x.signUp(9, 10));
            VaneUnion x = listed(6, 0, 5, 4, 3, 2);
            eq(1, x.signUp(1, 1));
            x.passShifts(3);
            refuses(STATE, () -> x.signUp(0, 0));
            x.strikeOff(3);
            eq(4, x.signUp(0, 0));
            refuses(STATE, () -> x.signUp(0, 3));
        });
    }

    private static void signUpRefusesListed() {
        sentence(32, "Throws `UnsupportedOperationException` if the member is on a picket list", () -> {
            refused(UNSUPPORTED, () -> listed(3, 0, 0), x -> x.signUp(0, 0), x -> x.signUp(9, 0));
            refused(UNSUPPORTED, () -> listed(3, 9, 0, 1, 2), x -> x.signUp(9, 2), x -> x.signUp(8, 1));
        });
        sentence(32, "A member is on at most one of these lists.", () -> {
            VaneUnion x = listed(3, 7, 1);
            for (int roof = 0; roof < 10; roof++) {
                int tried = roof;
                refuses(UNSUPPORTED, () -> x.signUp(tried, 1));
            }
            eq(7, x.strikeOff(1));
            eq(1, x.signUp(8, 1));
            eq(8, x.listOf(1));
            eq(0, x.listLength(7));
        });
    }

    private static void strikeOffTakes() {
        sentence(33, "Strikes a member off the picket list on which the member is.", () -> {
            int[][] left = {{4, 1, 2}, {3, 1, 2}, {3, 4, 2}, {3, 4, 1}};
            int[] members = {3, 4, 1, 2};
            for (int place = 0; place < 4; place++) {
                VaneUnion x = listed(6, 5, members);
                x.signUp(6, 0);
                x.signUp(6, 5);
                eq(5, x.strikeOff(members[place]));
                checkList(x, 5, left[place]);
                checkList(x, 6, 0, 5);
                eq(4, x.signUp(5, members[place]));
                eq(members[place], x.listedAt(5, 3));
            }
            VaneUnion only = listed(1, 9, 0);
            eq(9, only.strikeOff(0));
            eq(0, only.listLength(9));
            only.passShifts(1);
            eq(0, only.dutiesOf(0));
        });
        sentence(33, "Returns the roof of the list.", () -> {
            VaneUnion x = listed(3, 0, 2);
            x.signUp(9, 0);
            eq(0, x.strikeOff(2));
            eq(9, x.strikeOff(0));
        });
    }

    private static void strikeOffRefuses() {
        noSuchMember(33, NO_MEMBER, (x, member) -> x.strikeOff(member));
        sentence(33, ON_NO_LIST, () -> {
            refused(ELEMENT, () -> members(3), x -> x.strikeOff(0));
            refused(ELEMENT, () -> listed(3, 0, 1, 2), x -> x.strikeOff(0));
            refused(ELEMENT, () -> settledAfterListing(), x -> x.strikeOff(0), x -> x.strikeOff(2));
            refused(ELEMENT, () -> {
                VaneUnion x = listed(3, 0, 1, 2);
                x.strikeOff(1);
                return x;
            }, x -> x.strikeOff(1));
        });
    }

    private static void listLength() {
        sentence(34, "`roof`: the roof, 0 to 9", () -> {
            VaneUnion x = onStrike(12);
            for (int roof = 0; roof < 10; roof++) {
                eq(0, x.listLength(roof));
                x.signUp(roof, roof);
                eq(1, x.listLength(roof));
            }
            x.signUp(9, 10);
            x.signUp(0, 11);
            eq(2, x.listLength(9));
            eq(2, x.listLength(0));
            eq(1, x.listLength(1));
        });
        sentence(34, "Each roof has a picket list of at most 4 members.", () -> {
            VaneUnion x = onStrike(12);
            for (int length = 0; length < 4; length++) {
                eq(length, x.listLength(9));
                x.signUp(9, length);
            }
            eq(4, x.listLength(9));
            refuses(STATE, () -> x.signUp(9, 5));
            eq(4, x.listLength(9));
            eq(0, x.listLength(0));
            eq(0, x.listLength(8));
            x.passShifts(1);
            eq(4, x.listLength(9));
            x.strikeOff(0);
            eq(3, x.listLength(9));
            settle(x, 1);
            eq(0, x.listLength(9));
            eq(0, new VaneUnion().listLength(0));
        });
        noSuchRoof(34, NO_ROOF, (x, roof) -> x.listLength(roof));
    }

    private static void listedAtTakes() {
        sentence(35, "`roof`: the roof, 0 to 9", () -> {
            VaneUnion x = onStrike(12);
            for (int roof = 0; roof < 10; roof++) {
                x.signUp(roof, 11 - roof);
                eq(11 - roof, x.listedAt(roof, 0));
            }
        });
        sentence(35, "`position`: the position on the list, from 0", () -> {
            VaneUnion x = listed(12, 0, 11, 0, 5, 7);
            x.signUp(9, 3);
            eq(11, x.listedAt(0, 0));
            eq(0, x.listedAt(0, 1));
            eq(5, x.listedAt(0, 2));
            eq(7, x.listedAt(0, 3));
            eq(3, x.listedAt(9, 0));
        });
    }

    private static void listedAtRefuses() {
        noSuchRoof(35, NO_ROOF, (x, roof) -> x.listedAt(roof, 0));
        sentence(35, "Throws `NoSuchElementException` if there is no such position", () -> {
            NumberUse use = (x, position) -> x.listedAt(9, position);
            refusedFor(ELEMENT, () -> members(3), use, 0, -1, 1, LEAST, MOST);
            refusedFor(ELEMENT, () -> listed(3, 0, 0), use, 0, -1, 1, LEAST, MOST);
            refusedFor(ELEMENT, () -> listed(3, 9, 1), use, -1, 1, 2, LEAST, MOST);
            refusedFor(ELEMENT, () -> listed(4, 9, 0, 1, 2, 3), use, -1, 4, 5, LEAST, MOST);
            refusedFor(ELEMENT, () -> settledAfterListing(), use, 0, 1);
            VaneUnion x = listed(3, 9, 1, 0);
            x.strikeOff(1);
            refuses(ELEMENT, () -> x.listedAt(9, 1));
            eq(0, x.listedAt(9, 0));
        });
        sentence(35, FIRST_LISTED, () -> {
            refused(INDEX, () -> listed(3, 9, 1), x -> x.listedAt(10, 1), x -> x.listedAt(-1, -1), x -> x.listedAt(10, 0));
        });
    }

    private static void listOf() {
        sentence(36, "Returns the roof on whose picket list a member is.", () -> {
            VaneUnion x = listed(12, 0, 11);
            x.signUp(9, 0);
            x.passShifts(1);
            eq(0, x.listOf(11));
            eq(9, x.listOf(0));
        });
        noSuchMember(36, NO_MEMBER, (x, member) -> x.listOf(member));
        sentence(36, ON_NO_LIST, () -> {
            refused(ELEMENT, () -> members(1), x -> x.listOf(0));
            refused(ELEMENT, () -> listed(12, 0, 0, 1), x -> x.listOf(2), x -> x.listOf(11));
            refused(ELEMENT, () -> settledAfterListing(), x -> x.listOf(0), x -> x.listOf(1), x -> x.listOf(2));
            VaneUnion x = listed(3, 4, 0);
            x.strikeOff(0);
            refuses(ELEMENT, () -> x.listOf(0));
        });
    }
}
