import java.util.ArrayDeque;
import java.util.ArrayList;
import java.util.Arrays;
import java.util.List;
import java.util.NoSuchElementException;
import java.util.Random;
import java.util.TreeMap;
import java.util.regex.Matcher;
import java.util.regex.Pattern;

/**
 * Long runs of calls on VaneUnion and on a second union, written in another way: lists that hold
 * numbers, whole copies for undo, a pattern for the commands. The seed is the run's number, so
 * that every start makes the same calls.
 */
public final class ModelRuns {
    private static final int RUNS = 4000;
    private static final int CALLS = 512;

    public static void main(String[] args) {
        TreeMap<String, Integer> seen = new TreeMap<>();
        for (int run = 0; run < RUNS; run++) {
            if (!agree(run, seen)) {
                System.exit(1);
            }
        }
        int poor = tellPoorlyTested(seen);
        System.out.println("ModelRuns: " + RUNS + " runs of " + CALLS + " calls agree");
        if (poor != 0) {
            System.exit(1);
        }
    }

    private static boolean agree(int run, TreeMap<String, Integer> seen) {
        // Neighbouring seeds begin alike, so the run's number is spread first.
        Caller caller = new Caller(new Random(run * 0x9E3779B97F4A7C15L));
        VaneUnion union = new VaneUnion();
        Model model = new Model();
        List<String> calls = new ArrayList<>();
        for (int i = 0; i < CALLS; i++) {
            caller.choose(model);
            String due = outcome(() -> caller.askModel(model));
            String got = outcome(() -> caller.askUnion(union));
            calls.add(caller + " -> " + got);
            if (!due.equals(got)) {
                System.out.println("run " + run + ", due is " + due + " at the last of:");
                calls.forEach(System.out::println);
                return false;
            }
            seen.merge(caller.name + (due.startsWith("throws") ? " " + due : " answers"), 1, Integer::sum);
        }
        return true;
    }

    private interface Ask {
        Object answer();
    }

    private static String outcome(Ask ask) {
        try {
            return String.valueOf(ask.answer());
        } catch (RuntimeException e) {
            return "throws " + e.getClass().getName();
        }
    }

    /** The runs are worth little if an answer or an exception of a call hardly comes up in them. */
    private static int tellPoorlyTested(TreeMap<String, Integer> seen) {
        int poor = 0;
        for (int i = 0; i < Caller.NAMES.length; i++) {
            if (seen.getOrDefault(Caller.NAMES[i] + " answers", 0) < 1000) {
                System.out.println("too seldom: " + Caller.NAMES[i]);
                poor++;
            }
        }
        for (String due : Caller.EXCEPTIONS.trim().split("\\s*,\\s*")) {
            String row = due.replace(" NoSuch", " java.util.NoSuch").replaceAll(" (?!java)", " java.lang.");
            row = row.replaceFirst(" ", " throws ");
            if (seen.getOrDefault(row, 0) < 100) {
                System.out.println("too seldom: " + row);
                poor++;
            }
        }
        return poor;
    }

    /** Chooses a call and makes it. */
    private static final class Caller {
        static final String[] NAMES = ("addMember setWind passShifts vote callStrike payIn signUp strikeOff makeOffer"
            + " accept append run undo save restore memberCount roofOf membersOn rateOf bearingOf wagesOf supportOf"
            + " lostShifts lostDays dutiesOf memberAtRank windDirection windSpeed stepsToWind stepsToWindByTurning"
            + " shiftCount day votesFor hasVoted isOnStrike strikeShifts fund fundedShifts fundedShiftsByPaying"
            + " listLength listedAt listOf offerPercent acceptances offeredRate wageTotal lostTotal lostTotalByRoofs"
            + " stepTotal settlementCount errorPosition failedCommand describeMember lineAt meanLostDays isConsistent")
            .split(" ");
        static final String EXCEPTIONS = "addMember IndexOutOfBoundsException, addMember IllegalArgumentException,"
            + "addMember IllegalStateException, setWind IllegalArgumentException, passShifts IllegalArgumentException,"
            + "vote IndexOutOfBoundsException, vote IllegalStateException, callStrike IllegalStateException,"
            + "callStrike UnsupportedOperationException, payIn IllegalArgumentException, payIn IllegalStateException,"
            + "signUp IndexOutOfBoundsException, signUp IllegalStateException, signUp UnsupportedOperationException,"
            + "strikeOff IndexOutOfBoundsException, strikeOff NoSuchElementException,"
            + "listedAt NoSuchElementException, listOf NoSuchElementException, memberAtRank NoSuchElementException,"
            + "makeOffer IllegalArgumentException, makeOffer IllegalStateException, accept IndexOutOfBoundsException,"
            + "accept NoSuchElementException, accept IllegalStateException, offeredRate IndexOutOfBoundsException,"
            + "offeredRate NoSuchElementException, append IllegalArgumentException, append IllegalStateException,"
            + "run IllegalArgumentException, run IllegalStateException, undo IllegalStateException,"
            + "restore IllegalStateException, strikeShifts IllegalStateException, fundedShifts ArithmeticException,"
            + "fundedShiftsByPaying ArithmeticException, meanLostDays ArithmeticException,"
            + "errorPosition NoSuchElementException, failedCommand NoSuchElementException,"
            + "lineAt IndexOutOfBoundsException, describeMember IndexOutOfBoundsException";
        private static final int FIRST_QUERY = 15;
        private static final int[] STRANGE = {Integer.MIN_VALUE, Integer.MAX_VALUE, -1, -2, 1 << 30, 1000, 10000};

        final Random random;
        final boolean isRich;
        final boolean isCalm;
        final ArrayDeque<Character> pending = new ArrayDeque<>();
        String name = "";
        int first;
        int second;
        boolean isFor;

        Caller(Random random) {
            this.random = random;
            isRich = random.nextInt(4) == 0;
            isCalm = random.nextInt(2) == 0;
        }

        void choose(Model model) {
            if (!pending.isEmpty()) {
                name = "append";
                first = pending.poll();
                return;
            }
            if (model.text.length() > 0 && random.nextInt(10) > 0) {
                name = "run";
                return;
            }
            int dice = random.nextInt(100);
            if (dice < 45) {
                name = NAMES[FIRST_QUERY + random.nextInt(NAMES.length - FIRST_QUERY)];
                name = model.hasStrike && random.nextInt(8) == 0 ? (random.nextInt(2) == 0 ? "listedAt" : "listOf") : name;
            } else if (dice < 47) {
                writeText(model);
                return;
            } else if (dice < 51 && random.nextInt(4) == 0) {
                name = "append";
            } else if (dice < 55 && !(isCalm && random.nextInt(12) > 0)) {
                name = new String[] {"undo", "undo", "undo", "save", "restore", "run"}[random.nextInt(6)];
            } else {
                chooseChange(model);
            }
            isFor = random.nextInt(4) > 0;
            chooseNumbers(model);
        }

        private void chooseChange(Model model) {
            name = NAMES[random.nextInt(10)];
            if (random.nextInt(3) == 0) {
                String[] apt = model.hasStrike
                    ? new String[] {"signUp", "signUp", "passShifts", "makeOffer", "accept", "accept", "accept"}
                    : new String[] {"vote", "vote", "vote", "callStrike", "addMember", "payIn", "passShifts"};
                name = apt[random.nextInt(apt.length)];
            }
            if (name.equals("payIn") && !isRich && random.nextInt(4) > 0) {
                name = "passShifts";
            }
            if (isRich && random.nextInt(2) == 0) {
                name = "payIn";
            }
        }

        private void chooseNumbers(Model model) {
            first = numberFor(name, 0, model);
            second = numberFor(name, 1, model);
        }

        private int numberFor(String call, int place, Model model) {
            if (random.nextInt(60) == 0) {
                return STRANGE[random.nextInt(STRANGE.length)];
            }
            int members = model.members.size();
            switch (call) {
                case "addMember":
                    return place == 0 ? random.nextInt(10) + (random.nextInt(30) == 0 ? 1 : 0) : random.nextInt(22);
                case "setWind":
                    return random.nextInt(30) == 0 ? 8 + random.nextInt(6) : random.nextInt(8);
                case "passShifts":
                    return random.nextInt(4) > 0 ? random.nextInt(5) : random.nextInt(33);
                case "payIn":
                    return isRich ? 900 + random.nextInt(101) : random.nextInt(3) > 0 ? random.nextInt(60) : random.nextInt(1003);
                case "makeOffer":
                    return random.nextInt(52);
                case "signUp":
                    return place == 0 ? (random.nextInt(3) > 0 ? 4 : random.nextInt(11)) : numberFor("", 0, model);
                case "listLength":
                case "membersOn":
                    return random.nextInt(2) > 0 ? 4 : random.nextInt(11);
                case "listedAt":
                    return place == 0 ? (random.nextInt(4) > 0 ? 4 : random.nextInt(11)) : random.nextInt(5);
                case "append":
                    return random.nextInt(3) > 0 ? 32 + random.nextInt(95) : random.nextInt(130);
                case "lineAt":
                    return random.nextInt(12);
                default:
                    return random.nextInt(12) == 0 ? members : random.nextInt(Math.max(1, members));
            }
        }

        private void writeText(Model model) {
            StringBuilder made = new StringBuilder();
            int commands = 1 + random.nextInt(5);
            for (int i = 0; i < commands; i++) {
                made.append(i == 0 ? "" : ";").append(command(model));
            }
            if (random.nextInt(3) == 0) {
                int index = random.nextInt(made.length());
                switch (random.nextInt(3)) {
                    case 0:
                        made.setLength(index);
                        break;
                    case 1:
                        made.setCharAt(index, "0123456789 ;+-abefhikmoprstvw".charAt(random.nextInt(29)));
                        break;
                    default:
                        made.insert(index, "0123456789 ;+-abefhikmoprstvw".charAt(random.nextInt(29)));
                        break;
                }
            }
            for (int i = 0; i < made.length(); i++) {
                pending.add(made.charAt(i));
            }
            if (random.nextInt(40) == 0) {
                for (int i = 0; i < 65; i++) {
                    pending.add("pay 1;".charAt(i % 6));
                }
            }
            name = "votesFor";
        }

        private String command(Model model) {
            String[] calls = {"addMember", "setWind", "passShifts", "vote", "callStrike", "payIn", "signUp",
                "strikeOff", "makeOffer", "accept"};
            String[] words = {"member ", "wind ", "shift ", "vote ", "strike", "pay ", "picket ", "off ", "offer ",
                "accept "};
            int kind = random.nextInt(10);
            String digit = random.nextInt(10) + " ";
            int number = Math.abs(numberFor(calls[kind], 1, model) % 1000);
            String digits = random.nextInt(5) == 0 ? String.format("%03d", number) : String.valueOf(number);
            switch (words[kind]) {
                case "member ":
                case "wind ":
                case "picket ":
                    return words[kind] + digit + digits;
                case "vote ":
                    return words[kind] + digits + (random.nextInt(4) > 0 ? "+" : "-");
                case "strike":
                    return words[kind];
                default:
                    return words[kind] + digits;
            }
        }

        Object askUnion(VaneUnion x) {
            switch (name) {
                case "addMember": return x.addMember(first, second);
                case "memberCount": return x.memberCount();
                case "roofOf": return x.roofOf(first);
                case "membersOn": return x.membersOn(first);
                case "rateOf": return x.rateOf(first);
                case "bearingOf": return x.bearingOf(first);
                case "wagesOf": return x.wagesOf(first);
                case "supportOf": return x.supportOf(first);
                case "lostShifts": return x.lostShifts(first);
                case "lostDays": return x.lostDays(first);
                case "dutiesOf": return x.dutiesOf(first);
                case "memberAtRank": return x.memberAtRank(first);
                case "setWind": return x.setWind(first, second);
                case "windDirection": return x.windDirection();
                case "windSpeed": return x.windSpeed();
                case "stepsToWind": return x.stepsToWind(first);
                case "stepsToWindByTurning": return x.stepsToWindByTurning(first);
                case "passShifts": return x.passShifts(first);
                case "shiftCount": return x.shiftCount();
                case "day": return x.day();
                case "vote": return x.vote(first, isFor);
                case "votesFor": return x.votesFor();
                case "hasVoted": return x.hasVoted(first);
                case "callStrike": return x.callStrike();
                case "isOnStrike": return x.isOnStrike();
                case "strikeShifts": return x.strikeShifts();
                case "payIn": return x.payIn(first);
                case "fund": return x.fund();
                case "fundedShifts": return x.fundedShifts();
                case "fundedShiftsByPaying": return x.fundedShiftsByPaying();
                case "signUp": return x.signUp(first, second);
                case "strikeOff": return x.strikeOff(first);
                case "listLength": return x.listLength(first);
                case "listedAt": return x.listedAt(first, second);
                case "listOf": return x.listOf(first);
                case "makeOffer": return x.makeOffer(first);
                case "accept": return x.accept(first);
                case "offerPercent": return x.offerPercent();
                case "acceptances": return x.acceptances();
                case "offeredRate": return x.offeredRate(first);
                case "wageTotal": return x.wageTotal();
                case "lostTotal": return x.lostTotal();
                case "lostTotalByRoofs": return x.lostTotalByRoofs();
                case "stepTotal": return x.stepTotal();
                case "settlementCount": return x.settlementCount();
                case "append": return x.append((char) first);
                case "run": return x.run();
                case "errorPosition": return x.errorPosition();
                case "failedCommand": return x.failedCommand();
                case "describeMember": return x.describeMember(first);
                case "lineAt": return x.lineAt(first);
                case "meanLostDays": return x.meanLostDays();
                case "isConsistent": return x.isConsistent();
                case "undo": return x.undo();
                case "save": return x.save();
                default: return x.restore();
            }
        }

        Object askModel(Model m) {
            switch (name) {
                case "addMember": return m.addMember(first, second);
                case "setWind": return m.setWind(first, second);
                case "passShifts": return m.passShifts(first);
                case "vote": return m.vote(first, isFor);
                case "callStrike": return m.callStrike();
                case "payIn": return m.payIn(first);
                case "signUp": return m.signUp(first, second);
                case "strikeOff": return m.strikeOff(first);
                case "makeOffer": return m.makeOffer(first);
                case "accept": return m.accept(first);
                case "append": return m.append((char) first);
                case "run": return m.run();
                case "undo": return m.undo();
                case "save": return m.save();
                case "restore": return m.restore();
                case "describeMember": return m.describeMember(first);
                default: return m.query(name, first, second);
            }
        }

        @Override
        public String toString() {
            return name + "(" + first + ", " + second + ", " + isFor + ")";
        }
    }

    /** The second union. A member is a row of numbers; the lists, votes and acceptances stand apart. */
    private static final class Model {
        private static final int ROOF = 0, RATE = 1, BEARING = 2, WAGES = 3, SUPPORT = 4, LOST = 5, DUTIES = 6;
        private static final Pattern TEXT = Pattern.compile("(?<c>(member|wind|picket) \\d \\d{1,3}"
            + "|(shift|pay|off|offer|accept) \\d{1,3}|vote \\d{1,3}[+-]|strike)"
            + "(;((member|wind|picket) \\d \\d{1,3}|(shift|pay|off|offer|accept) \\d{1,3}|vote \\d{1,3}[+-]|strike))*");

        List<int[]> members = new ArrayList<>();
        List<List<Integer>> lists = new ArrayList<>();
        TreeMap<Integer, Boolean> votes = new TreeMap<>();
        List<Integer> accepted = new ArrayList<>();
        int direction, speed, shifts, steps, strikeShifts, strikes, fund, percent, settled;
        boolean hasStrike;
        ArrayDeque<Model> past = new ArrayDeque<>();
        Model saved;
        StringBuilder text = new StringBuilder();
        String line = "";
        int error = -1, failed = -1;

        Model() {
            for (int roof = 0; roof < 10; roof++) {
                lists.add(new ArrayList<>());
            }
        }

        Model copy() {
            Model made = new Model();
            made.take(this);
            return made;
        }

        void take(Model other) {
            members = new ArrayList<>();
            other.members.forEach(row -> members.add(row.clone()));
            lists = new ArrayList<>();
            other.lists.forEach(list -> lists.add(new ArrayList<>(list)));
            votes = new TreeMap<>(other.votes);
            accepted = new ArrayList<>(other.accepted);
            direction = other.direction;
            speed = other.speed;
            shifts = other.shifts;
            steps = other.steps;
            strikeShifts = other.strikeShifts;
            strikes = other.strikes;
            fund = other.fund;
            percent = other.percent;
            settled = other.settled;
            hasStrike = other.hasStrike;
        }

        void note() {
            past.addLast(copy());
            if (past.size() > 8) {
                past.removeFirst();
            }
        }

        void member(int m) {
            if (m < 0 || m >= members.size()) {
                throw new IndexOutOfBoundsException();
            }
        }

        void roof(int r) {
            if (r < 0 || r > 9) {
                throw new IndexOutOfBoundsException();
            }
        }

        void range(int number, int low, int high) {
            if (number < low || number > high) {
                throw new IllegalArgumentException();
            }
        }

        void state(boolean isWell) {
            if (!isWell) {
                throw new IllegalStateException();
            }
        }

        void element(boolean isThere) {
            if (!isThere) {
                throw new NoSuchElementException();
            }
        }

        static int way(int a, int b) {
            return Math.min(Math.floorMod(a - b, 8), Math.floorMod(b - a, 8));
        }

        int addMember(int r, int rate) {
            roof(r);
            range(rate, 1, 20);
            state(members.size() < 12);
            note();
            members.add(new int[] {r, rate, 0, 0, 0, 0, 0});
            return members.size() - 1;
        }

        int setWind(int d, int s) {
            range(d, 0, 7);
            range(s, 0, 12);
            note();
            int turned = way(d, direction);
            direction = d;
            speed = s;
            return turned;
        }

        int passShifts(int count) {
            range(count, 1, 30);
            note();
            int before = steps;
            for (int i = 0; i < count; i++) {
                shifts++;
                if (hasStrike) {
                    strikeShift();
                } else {
                    for (int[] row : members) {
                        steps += way(row[BEARING], direction);
                        row[BEARING] = direction;
                        row[WAGES] += speed > 0 ? row[RATE] : 0;
                    }
                }
            }
            return steps - before;
        }

        void strikeShift() {
            strikeShifts++;
            members.forEach(row -> row[LOST]++);
            for (int[] row : members) {
                if (fund >= 2) {
                    fund -= 2;
                    row[SUPPORT] += 2;
                }
            }
            for (List<Integer> list : lists) {
                List<Integer> onDuty = new ArrayList<>(list.subList(0, Math.min(2, list.size())));
                onDuty.forEach(m -> members.get(m)[DUTIES]++);
                list.removeAll(onDuty);
                list.addAll(onDuty);
            }
        }

        int votesFor() {
            return (int) votes.values().stream().filter(isFor -> isFor).count();
        }

        int vote(int m, boolean isFor) {
            member(m);
            state(!hasStrike);
            note();
            votes.put(m, isFor);
            return votesFor();
        }

        int callStrike() {
            state(!hasStrike);
            if (2 * votesFor() <= members.size()) {
                throw new UnsupportedOperationException();
            }
            note();
            votes.clear();
            hasStrike = true;
            strikeShifts = 0;
            return ++strikes;
        }

        int payIn(int coins) {
            range(coins, 1, 999);
            state(fund + coins <= 9999);
            note();
            fund += coins;
            return fund;
        }

        int listOf(int m) {
            for (int r = 0; r < 10; r++) {
                if (lists.get(r).contains(m)) {
                    return r;
                }
            }
            return -1;
        }

        int signUp(int r, int m) {
            roof(r);
            member(m);
            state(hasStrike);
            state(lists.get(r).size() < 4);
            if (listOf(m) >= 0) {
                throw new UnsupportedOperationException();
            }
            note();
            lists.get(r).add(m);
            return lists.get(r).size();
        }

        int strikeOff(int m) {
            member(m);
            int r = listOf(m);
            element(r >= 0);
            note();
            lists.get(r).remove(Integer.valueOf(m));
            return r;
        }

        int makeOffer(int p) {
            range(p, 1, 50);
            state(hasStrike);
            note();
            int removed = accepted.size();
            accepted.clear();
            percent = p;
            return removed;
        }

        int raised(int rate) {
            return (int) Math.min(99, Math.ceil(rate * (100 + percent) / 100.0));
        }

        boolean accept(int m) {
            member(m);
            element(percent > 0);
            state(!accepted.contains(m));
            note();
            accepted.add(m);
            if (2 * accepted.size() <= members.size()) {
                return false;
            }
            members.forEach(row -> row[RATE] = raised(row[RATE]));
            votes.clear();
            accepted.clear();
            lists.forEach(List::clear);
            percent = 0;
            hasStrike = false;
            settled++;
            return true;
        }

        int append(char c) {
            range(c, 32, 126);
            state(text.length() < 60);
            text.append(c);
            return text.length();
        }

        static boolean canGoOn(String start) {
            Matcher matcher = TEXT.matcher(start);
            return matcher.matches() || matcher.hitEnd();
        }

        int run() {
            String given = text.toString();
            text.setLength(0);
            if (!TEXT.matcher(given).matches()) {
                int position = 0;
                while (position < given.length() && canGoOn(given.substring(0, position + 1))) {
                    position++;
                }
                error = position;
                throw new IllegalArgumentException();
            }
            Model trial = copy();
            String[] commands = given.split(";");
            for (int i = 0; i < commands.length; i++) {
                try {
                    trial.carryOut(commands[i]);
                } catch (RuntimeException e) {
                    failed = i;
                    throw new IllegalStateException();
                }
            }
            note();
            take(trial);
            return commands.length;
        }

        void carryOut(String command) {
            String[] words = command.replace("+", "").replace("-", "").split(" ");
            int a = words.length > 1 ? Integer.parseInt(words[1]) : 0;
            int b = words.length > 2 ? Integer.parseInt(words[2]) : 0;
            switch (words[0]) {
                case "member": addMember(a, b); break;
                case "wind": setWind(a, b); break;
                case "shift": passShifts(a); break;
                case "vote": vote(a, command.endsWith("+")); break;
                case "strike": callStrike(); break;
                case "pay": payIn(a); break;
                case "picket": signUp(a, b); break;
                case "off": strikeOff(a); break;
                case "offer": makeOffer(a); break;
                default: accept(a); break;
            }
        }

        int undo() {
            state(!past.isEmpty());
            take(past.removeLast());
            return past.size();
        }

        int save() {
            saved = copy();
            return members.size();
        }

        int restore() {
            state(saved != null);
            take(saved);
            past.clear();
            return members.size();
        }

        int describeMember(int m) {
            member(m);
            int[] row = members.get(m);
            line = "m" + m + "@" + row[ROOF] + "abcdefgh".charAt(row[BEARING]) + " " + row[WAGES]
                + (row[SUPPORT] == 0 ? "" : "+" + row[SUPPORT]) + (row[LOST] == 0 ? "" : "-" + row[LOST])
                + (listOf(m) < 0 ? "" : "!");
            return line.length();
        }

        int sum(int column) {
            return members.stream().mapToInt(row -> row[column]).sum();
        }

        int ranked(int rank) {
            element(rank >= 0 && rank < members.size());
            Integer[] order = new Integer[members.size()];
            Arrays.setAll(order, i -> i);
            Arrays.sort(order, (a, b) -> {
                int[] one = members.get(a);
                int[] other = members.get(b);
                return one[WAGES] != other[WAGES] ? other[WAGES] - one[WAGES]
                    : one[LOST] != other[LOST] ? one[LOST] - other[LOST] : a - b;
            });
            return order[rank];
        }

        int[] row(int m) {
            member(m);
            return members.get(m);
        }

        void someMembers() {
            if (members.isEmpty()) {
                throw new ArithmeticException();
            }
        }

        List<Integer> list(int r) {
            roof(r);
            return lists.get(r);
        }

        Object query(String name, int a, int b) {
            switch (name) {
                case "memberCount": return members.size();
                case "roofOf": return row(a)[ROOF];
                case "membersOn": roof(a); return (int) members.stream().filter(row -> row[ROOF] == a).count();
                case "rateOf": return row(a)[RATE];
                case "bearingOf": return row(a)[BEARING];
                case "wagesOf": return row(a)[WAGES];
                case "supportOf": return row(a)[SUPPORT];
                case "lostShifts": return row(a)[LOST];
                case "lostDays": return (float) row(a)[LOST] / 3f;
                case "dutiesOf": return row(a)[DUTIES];
                case "memberAtRank": return ranked(a);
                case "windDirection": return direction;
                case "windSpeed": return speed;
                case "stepsToWind":
                case "stepsToWindByTurning": return way(row(a)[BEARING], direction);
                case "shiftCount": return shifts;
                case "day": return shifts / 3;
                case "votesFor": return votesFor();
                case "hasVoted": member(a); return votes.containsKey(a);
                case "isOnStrike": return hasStrike;
                case "strikeShifts": state(hasStrike); return strikeShifts;
                case "fund": return fund;
                case "fundedShifts":
                case "fundedShiftsByPaying": someMembers(); return fund / (2 * members.size());
                case "listLength": return list(a).size();
                case "listedAt": roof(a); element(b >= 0 && b < list(a).size()); return list(a).get(b);
                case "listOf": member(a); element(listOf(a) >= 0); return listOf(a);
                case "offerPercent": element(percent > 0); return percent;
                case "acceptances": element(percent > 0); return accepted.size();
                case "offeredRate": member(a); element(percent > 0); return raised(row(a)[RATE]);
                case "wageTotal": return (long) sum(WAGES);
                case "lostTotal":
                case "lostTotalByRoofs": return sum(LOST);
                case "stepTotal": return steps;
                case "settlementCount": return settled;
                case "errorPosition": element(error >= 0); return error;
                case "failedCommand": element(failed >= 0); return failed;
                case "lineAt":
                    if (a < 0 || a >= line.length()) {
                        throw new IndexOutOfBoundsException();
                    }
                    return line.charAt(a);
                case "meanLostDays": someMembers(); return (double) sum(LOST) / (double) (3 * members.size());
                case "isConsistent": return true;
                default: throw new AssertionError(name);
            }
        }
    }
}
