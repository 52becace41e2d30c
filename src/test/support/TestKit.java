import java.util.ArrayList;
import java.util.List;
import java.util.NoSuchElementException;

/** What the tests share: checks that count what is wrong, and unions made ready. */
abstract class TestKit {
    static final Class<?> INDEX = IndexOutOfBoundsException.class;
    static final Class<?> ARGUMENT = IllegalArgumentException.class;
    static final Class<?> STATE = IllegalStateException.class;
    static final Class<?> UNSUPPORTED = UnsupportedOperationException.class;
    static final Class<?> ELEMENT = NoSuchElementException.class;
    static final Class<?> ARITHMETIC = ArithmeticException.class;
    static final int LEAST = Integer.MIN_VALUE;
    static final int MOST = Integer.MAX_VALUE;
    static final int[] NO_ROOFS = {-1, 10, 11, LEAST, MOST};

    /** The promise under test, told with each wrong answer. */
    static int promise;
    private static String words = "";
    private static int sentences;
    private static int wrong;

    interface Test {
        void go();
    }

    interface Call {
        Object make();
    }

    interface Ready {
        VaneUnion make();
    }

    interface Use {
        Object of(VaneUnion x);
    }

    interface NumberUse {
        Object of(VaneUnion x, int number);
    }

    // ---- checks

    /** One sentence of the document and the test that is its own. */
    static void sentence(int ofPromise, String saying, Test test) {
        promise = ofPromise;
        words = saying;
        sentences++;
        try {
            test.go();
        } catch (RuntimeException e) {
            tell("threw " + e.getClass().getName() + " at " + placeOf(e));
        }
        words = "";
    }

    static void eq(Object want, Object got) {
        if (!want.equals(got)) {
            tell("answered " + got + ", due is " + want);
        }
    }

    static void refuses(Class<?> want, Call call) {
        try {
            tell("answered " + call.make() + ", due is " + want.getName());
        } catch (RuntimeException e) {
            if (e.getClass() != want) {
                tell("threw " + e.getClass().getName() + ", due is " + want.getName());
            }
        }
    }

    /** Each use is refused on a union made ready for it, and leaves that as its untouched twin is. */
    static void refused(Class<?> want, Ready ready, Use... uses) {
        for (Use use : uses) {
            VaneUnion tried = ready.make();
            refuses(want, () -> use.of(tried));
            same(allOf(ready.make()), allOf(tried));
        }
    }

    static void refusedFor(Class<?> want, Ready ready, NumberUse use, int... numbers) {
        for (int number : numbers) {
            refused(want, ready, x -> use.of(x, number));
        }
    }

    /** No member stands before number 0, from the count of members on, or where an adding was undone. */
    static void noSuchMember(int ofPromise, String saying, NumberUse use) {
        sentence(ofPromise, saying, () -> {
            refusedFor(INDEX, () -> new VaneUnion(), use, -1, 0, LEAST, MOST);
            refusedFor(INDEX, () -> members(3), use, -1, 3, 4, 11, 12, LEAST, MOST);
            refusedFor(INDEX, () -> members(12), use, -1, 12, LEAST, MOST);
            refusedFor(INDEX, () -> {
                VaneUnion x = members(3);
                x.undo();
                return x;
            }, use, 2);
        });
    }

    /** No roof stands before roof 0 or after roof 9, be there members or not. */
    static void noSuchRoof(int ofPromise, String saying, NumberUse use) {
        sentence(ofPromise, saying, () -> {
            refusedFor(INDEX, () -> new VaneUnion(), use, NO_ROOFS);
            refusedFor(INDEX, () -> onStrike(12), use, NO_ROOFS);
        });
    }

    static void same(List<String> want, List<String> got) {
        for (int i = 0; i < Math.max(want.size(), got.size()); i++) {
            eq(i < want.size() ? want.get(i) : "nothing", i < got.size() ? got.get(i) : "nothing");
        }
    }

    static void tell(String what) {
        wrong++;
        String of = words.isEmpty() ? "" : ", \"" + words + "\"";
        System.out.println("promise " + promise + of + ", " + placeOf(new Throwable()) + ": " + what);
    }

    /** The row of the test, which is what a reader looks for, not the kit's or the class's. */
    private static String placeOf(Throwable thrown) {
        for (StackTraceElement element : thrown.getStackTrace()) {
            String name = element.getClassName();
            if (!name.startsWith("TestKit") && !name.startsWith("VaneUnion")) {
                return "row " + element.getLineNumber();
            }
        }
        return "no row";
    }

    static void finish(String name) {
        String tested = sentences == 0 ? "" : sentences + " sentences, ";
        System.out.println(name + ": " + tested + wrong + " wrong");
        if (wrong != 0) {
            System.exit(1);
        }
    }

    // ---- unions made ready

    /** Member i is on roof i, 10 and 11 again on 0 and 1, with a rate of i + 1. */
    static VaneUnion members(int count) {
        VaneUnion x = new VaneUnion();
        for (int i = 0; i < count; i++) {
            x.addMember(i % 10, i + 1);
        }
        return x;
    }

    static VaneUnion onStrike(int count) {
        VaneUnion x = members(count);
        strike(x);
        return x;
    }

    static VaneUnion withOffer(int count, int percent) {
        VaneUnion x = onStrike(count);
        x.makeOffer(percent);
        return x;
    }

    static VaneUnion withFund(int members, int coins) {
        VaneUnion x = members(members);
        fill(x, coins);
        return x;
    }

    static void fill(VaneUnion x, int coins) {
        for (int left = coins; left > 0; left -= 999) {
            x.payIn(Math.min(left, 999));
        }
    }

    static void strike(VaneUnion x) {
        int count = x.memberCount();
        for (int member = 0; member < count; member++) {
            x.vote(member, true);
        }
        x.callStrike();
    }

    static void settle(VaneUnion x, int percent) {
        x.makeOffer(percent);
        int member = 0;
        while (!x.accept(member)) {
            member++;
        }
    }

    static void write(VaneUnion x, String text) {
        for (char c : text.toCharArray()) {
            x.append(c);
        }
    }

    static int run(VaneUnion x, String text) {
        write(x, text);
        return x.run();
    }

    // ---- what a union tells

    /** The answer, or the name of the exception. */
    static String answer(Call call) {
        try {
            return String.valueOf(call.make());
        } catch (RuntimeException e) {
            return e.getClass().getSimpleName();
        }
    }

    static String line(VaneUnion x, int length) {
        StringBuilder made = new StringBuilder();
        for (int i = 0; i < length; i++) {
            made.append(x.lineAt(i));
        }
        return made.toString();
    }

    static String describe(VaneUnion x, int member) {
        return line(x, x.describeMember(member));
    }

    /** The line as far as it goes. */
    static String wholeLine(VaneUnion x) {
        StringBuilder made = new StringBuilder();
        for (int i = 0; i < 60; i++) {
            int index = i;
            String character = answer(() -> x.lineAt(index));
            if (character.length() != 1) {
                break;
            }
            made.append(character);
        }
        return made.toString();
    }

    static void checkList(VaneUnion x, int roof, int... members) {
        eq(members.length, x.listLength(roof));
        for (int position = 0; position < members.length; position++) {
            eq(members[position], x.listedAt(roof, position));
        }
    }

    static void checkDuties(VaneUnion x, int... duties) {
        for (int member = 0; member < duties.length; member++) {
            eq(duties[member], x.dutiesOf(member));
        }
    }

    static void checkSupport(VaneUnion x, int... support) {
        for (int member = 0; member < support.length; member++) {
            eq(support[member], x.supportOf(member));
        }
    }

    /** All that the queries tell; some 165 calls with 12 members, so that two fit in 512. */
    static List<String> stateOf(VaneUnion x) {
        List<String> rows = new ArrayList<>();
        int count = x.memberCount();
        for (int i = 0; i < count; i++) {
            int member = i;
            rows.add("member " + i + ": roof " + x.roofOf(i) + ", rate " + x.rateOf(i) + ", bearing " + x.bearingOf(i)
                    + ", wages " + x.wagesOf(i) + ", support " + x.supportOf(i) + ", lost " + x.lostShifts(i)
                    + ", duties " + x.dutiesOf(i) + ", voted " + x.hasVoted(i)
                    + ", list " + answer(() -> x.listOf(member)));
        }
        for (int roof = 0; roof < 10; roof++) {
            StringBuilder list = new StringBuilder("list of roof " + roof + ":");
            int length = x.listLength(roof);
            for (int position = 0; position < length; position++) {
                list.append(' ').append(x.listedAt(roof, position));
            }
            rows.add(list.toString());
        }
        rows.add(briefOf(x));
        rows.add("speed " + x.windSpeed() + ", steps " + x.stepTotal() + ", strike shifts "
                + answer(() -> x.strikeShifts()) + ", percent " + answer(() -> x.offerPercent())
                + ", acceptances " + answer(() -> x.acceptances()) + ", settlements " + x.settlementCount());
        rows.add("error position " + answer(() -> x.errorPosition()) + ", failed command "
                + answer(() -> x.failedCommand()) + ", line " + wholeLine(x));
        return rows;
    }

    private static String briefOf(VaneUnion x) {
        return "members " + x.memberCount() + ", wind " + x.windDirection() + ", shifts " + x.shiftCount()
                + ", on strike " + x.isOnStrike() + ", votes " + x.votesFor() + ", fund " + x.fund();
    }

    /** All that a union can tell, with its text, its undoable changes and its snapshot; it is used up by this. */
    static List<String> allOf(VaneUnion x) {
        List<String> rows = stateOf(x);
        rows.add("append " + answer(() -> x.append(' ')));
        for (int i = 1; i <= 9; i++) {
            rows.add("undo " + i + ": " + answer(() -> x.undo()) + ", " + briefOf(x));
        }
        rows.add("restore " + answer(() -> x.restore()) + ", " + briefOf(x));
        return rows;
    }
}
