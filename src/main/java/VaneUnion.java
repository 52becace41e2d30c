import java.util.NoSuchElementException;

/** The books of a union of weathervanes; see README.md. */
public final class VaneUnion {
    private static final int MEMBER_LIMIT = 12;
    private static final int ROOF_COUNT = 10;
    private static final int RATE_LIMIT_WHEN_ADDED = 20;
    private static final int RATE_LIMIT = 99;
    private static final int DIRECTION_COUNT = 8;
    private static final int SPEED_LIMIT = 12;
    private static final int SHIFTS_PER_DAY = 3;
    private static final int SHIFTS_PER_CALL = 30;
    private static final int COINS_PER_PAYMENT = 999;
    private static final int FUND_LIMIT = 9999;
    private static final int SUPPORT = 2;
    private static final int LIST_LIMIT = 4;
    private static final int DUTIES_PER_LIST = 2;
    private static final int PERCENT_LIMIT = 50;
    private static final int TEXT_LIMIT = 60;
    private static final int FIRST_CHARACTER = 32;
    private static final int LAST_CHARACTER = 126;
    private static final int DIGITS_PER_NUMBER = 3;
    // The shortest command takes 6 characters with its semicolon, so 60 characters hold at most
    // 10 commands; the row beyond them is for the command that a last semicolon promises.
    private static final int COMMAND_LIMIT = 11;
    private static final int UNDO_LIMIT = 8;
    // One row more than can be undone: the books before a change wait in it until the change stands.
    private static final int HISTORY_ROWS = UNDO_LIMIT + 1;
    private static final int NONE = -1;
    private static final int NO_OFFER = 0;
    private static final int NO_VOTE = 0;
    private static final int VOTE_FOR = 1;
    private static final int VOTE_AGAINST = 2;

    private static final Keyword[] KEYWORDS = Keyword.values();

    private final Books books;
    private final Books[] history;
    private int freeRow;
    private int undoableChanges;
    private final Books snapshot;
    private boolean hasSnapshot;
    private final CommandText commands;
    private int lastErrorPosition;
    private int lastFailedCommand;
    private final StringBuilder line;

    public VaneUnion() {
        books = new Books();
        history = new Books[HISTORY_ROWS];
        for (int row = 0; row < HISTORY_ROWS; row++) {
            history[row] = new Books();
        }
        snapshot = new Books();
        commands = new CommandText();
        lastErrorPosition = NONE;
        lastFailedCommand = NONE;
        line = new StringBuilder();
    }

    // ---- members

    public int addMember(int roof, int rate)
            throws IndexOutOfBoundsException, IllegalArgumentException, IllegalStateException {
        refuse(books.faultOfAdding(roof, rate));
        beginChange();
        int member = books.add(roof, rate);
        endChange();
        return member;
    }

    public int memberCount() {
        return books.memberCount;
    }

    public int roofOf(int member) throws IndexOutOfBoundsException {
        return existing(member).roof;
    }

    public int membersOn(int roof) throws IndexOutOfBoundsException {
        requireRoof(roof);
        return books.countOnRoof(roof);
    }

    public int rateOf(int member) throws IndexOutOfBoundsException {
        return existing(member).rate;
    }

    public int bearingOf(int member) throws IndexOutOfBoundsException {
        return existing(member).bearing;
    }

    public int wagesOf(int member) throws IndexOutOfBoundsException {
        return existing(member).wages;
    }

    public int supportOf(int member) throws IndexOutOfBoundsException {
        return existing(member).support;
    }

    public int lostShifts(int member) throws IndexOutOfBoundsException {
        return existing(member).lost;
    }

    public float lostDays(int member) throws IndexOutOfBoundsException {
        return (float) existing(member).lost / (float) SHIFTS_PER_DAY;
    }

    public int dutiesOf(int member) throws IndexOutOfBoundsException {
        return existing(member).duties;
    }

    public int memberAtRank(int rank) throws NoSuchElementException {
        int member = books.findRank(rank);
        if (member == NONE) {
            throw new NoSuchElementException("no such rank");
        }
        return member;
    }

    // ---- wind and shifts

    public int setWind(int direction, int speed) throws IllegalArgumentException {
        refuse(books.faultOfWind(direction, speed));
        beginChange();
        int steps = books.turnWind(direction, speed);
        endChange();
        return steps;
    }

    public int windDirection() {
        return books.windDirection;
    }

    public int windSpeed() {
        return books.windSpeed;
    }

    public int stepsToWind(int member) throws IndexOutOfBoundsException {
        return stepsBetween(existing(member).bearing, books.windDirection);
    }

    public int stepsToWindByTurning(int member) throws IndexOutOfBoundsException {
        return stepsByTurning(existing(member).bearing, books.windDirection);
    }

    public int passShifts(int shifts) throws IllegalArgumentException {
        refuse(books.faultOfPassing(shifts));
        beginChange();
        int steps = books.pass(shifts);
        endChange();
        return steps;
    }

    public int shiftCount() {
        return books.shiftCount;
    }

    public int day() {
        return books.shiftCount / SHIFTS_PER_DAY;
    }

    // ---- votes and strikes

    public int vote(int member, boolean isFor) throws IndexOutOfBoundsException, IllegalStateException {
        refuse(books.faultOfVoting(member));
        beginChange();
        int votes = books.castVote(member, isFor);
        endChange();
        return votes;
    }

    public int votesFor() {
        return books.countVotesFor();
    }

    public boolean hasVoted(int member) throws IndexOutOfBoundsException {
        return existing(member).vote != NO_VOTE;
    }

    public int callStrike() throws IllegalStateException, UnsupportedOperationException {
        refuse(books.faultOfStriking());
        beginChange();
        int strikes = books.beginStrike();
        endChange();
        return strikes;
    }

    public boolean isOnStrike() {
        return books.hasStrike;
    }

    public int strikeShifts() throws IllegalStateException {
        if (!books.hasStrike) {
            throw new IllegalStateException("there is no strike");
        }
        return books.shiftsInStrike;
    }

    public int payIn(int coins) throws IllegalArgumentException, IllegalStateException {
        refuse(books.faultOfPaying(coins));
        beginChange();
        int fund = books.pay(coins);
        endChange();
        return fund;
    }

    public int fund() {
        return books.fund;
    }

    public int fundedShifts() throws ArithmeticException {
        requireMembers();
        return books.divideFund();
    }

    public int fundedShiftsByPaying() throws ArithmeticException {
        requireMembers();
        return books.payOutCopyOfFund();
    }

    // ---- picket lists

    public int signUp(int roof, int member)
            throws IndexOutOfBoundsException, IllegalStateException, UnsupportedOperationException {
        refuse(books.faultOfSigning(roof, member));
        beginChange();
        int length = books.putOnList(roof, member);
        endChange();
        return length;
    }

    public int strikeOff(int member) throws IndexOutOfBoundsException, NoSuchElementException {
        refuse(books.faultOfStrikingOff(member));
        beginChange();
        int roof = books.takeOffList(member);
        endChange();
        return roof;
    }

    public int listLength(int roof) throws IndexOutOfBoundsException {
        requireRoof(roof);
        return books.countOnList(roof);
    }

    public int listedAt(int roof, int position) throws IndexOutOfBoundsException, NoSuchElementException {
        requireRoof(roof);
        int member = books.findOnList(roof, position);
        if (member == NONE) {
            throw new NoSuchElementException("no such position on the list");
        }
        return member;
    }

    public int listOf(int member) throws IndexOutOfBoundsException, NoSuchElementException {
        int list = existing(member).list;
        if (list == NONE) {
            throw new NoSuchElementException("the member is on no picket list");
        }
        return list;
    }

    // ---- offers

    public int makeOffer(int percent) throws IllegalArgumentException, IllegalStateException {
        refuse(books.faultOfOffering(percent));
        beginChange();
        int removed = books.offer(percent);
        endChange();
        return removed;
    }

    public boolean accept(int member)
            throws IndexOutOfBoundsException, NoSuchElementException, IllegalStateException {
        refuse(books.faultOfAccepting(member));
        beginChange();
        boolean isSettled = books.takeAcceptance(member);
        endChange();
        return isSettled;
    }

    public int offerPercent() throws NoSuchElementException {
        requireOffer();
        return books.percent;
    }

    public int acceptances() throws NoSuchElementException {
        requireOffer();
        return books.countAcceptances();
    }

    public int offeredRate(int member) throws IndexOutOfBoundsException, NoSuchElementException {
        int rate = existing(member).rate;
        requireOffer();
        return raisedRate(rate, books.percent);
    }

    // ---- totals

    public long wageTotal() {
        return books.sumWages();
    }

    public int lostTotal() {
        return books.sumLostByMembers();
    }

    public int lostTotalByRoofs() {
        return books.sumLostByRoofs();
    }

    public int stepTotal() {
        return books.stepCount;
    }

    public int settlementCount() {
        return books.settlements;
    }

    // ---- commands

    public int append(char character) throws IllegalArgumentException, IllegalStateException {
        if (character < FIRST_CHARACTER || character > LAST_CHARACTER) {
            throw new IllegalArgumentException("the character is not from 32 to 126");
        }
        if (commands.text.length() >= TEXT_LIMIT) {
            throw new IllegalStateException("the command text is full");
        }
        commands.text.append(character);
        return commands.text.length();
    }

    public int run() throws IllegalArgumentException, IllegalStateException {
        boolean isCommandText = commands.readText();
        commands.text.setLength(0);
        if (!isCommandText) {
            lastErrorPosition = commands.position;
            throw new IllegalArgumentException("the text is not a command text");
        }
        int failed = carryOutAll();
        if (failed != NONE) {
            lastFailedCommand = failed;
            throw new IllegalStateException("a command fails");
        }
        return commands.count;
    }

    public int errorPosition() throws NoSuchElementException {
        if (lastErrorPosition == NONE) {
            throw new NoSuchElementException("no error position was set");
        }
        return lastErrorPosition;
    }

    public int failedCommand() throws NoSuchElementException {
        if (lastFailedCommand == NONE) {
            throw new NoSuchElementException("no command has failed");
        }
        return lastFailedCommand;
    }

    // ---- line, statistics, undo, snapshot

    public int describeMember(int member) throws IndexOutOfBoundsException {
        Member described = existing(member);
        line.setLength(0);
        line.append('m').append(member);
        line.append('@').append(described.roof);
        line.append((char) ('a' + described.bearing));
        line.append(' ').append(described.wages);
        if (described.support != 0) {
            line.append('+').append(described.support);
        }
        if (described.lost != 0) {
            line.append('-').append(described.lost);
        }
        if (described.list != NONE) {
            line.append('!');
        }
        return line.length();
    }

    public char lineAt(int index) throws IndexOutOfBoundsException {
        if (index < 0 || index >= line.length()) {
            throw new IndexOutOfBoundsException("no such index in the line");
        }
        return line.charAt(index);
    }

    public double meanLostDays() throws ArithmeticException {
        requireMembers();
        return (double) books.sumLostByMembers() / (double) (SHIFTS_PER_DAY * books.memberCount);
    }

    public boolean isConsistent() {
        for (int member = 0; member < books.memberCount; member++) {
            if (stepsToWind(member) != stepsToWindByTurning(member)) {
                return false;
            }
        }
        if (lostTotal() != lostTotalByRoofs()) {
            return false;
        }
        return books.memberCount == 0 || fundedShifts() == fundedShiftsByPaying();
    }

    public int undo() throws IllegalStateException {
        if (undoableChanges == 0) {
            throw new IllegalStateException("there is no change to undo");
        }
        undoableChanges--;
        freeRow = (freeRow + HISTORY_ROWS - 1) % HISTORY_ROWS;
        books.copyFrom(history[freeRow]);
        return undoableChanges;
    }

    public int save() {
        snapshot.copyFrom(books);
        hasSnapshot = true;
        return books.memberCount;
    }

    public int restore() throws IllegalStateException {
        if (!hasSnapshot) {
            throw new IllegalStateException("there is no snapshot");
        }
        books.copyFrom(snapshot);
        undoableChanges = 0;
        return books.memberCount;
    }

    // ---- helpers

    private Member existing(int member) {
        if (!books.isMember(member)) {
            throw new IndexOutOfBoundsException("no such member");
        }
        return books.members[member];
    }

    private static void requireRoof(int roof) {
        if (!isRoof(roof)) {
            throw new IndexOutOfBoundsException("no such roof");
        }
    }

    private void requireMembers() {
        if (books.memberCount == 0) {
            throw new ArithmeticException("there are no members");
        }
    }

    private void requireOffer() {
        if (books.percent == NO_OFFER) {
            throw new NoSuchElementException("there is no offer");
        }
    }

    private static void refuse(Fault fault) {
        switch (fault) {
            case NO_INDEX:
                throw new IndexOutOfBoundsException("no such roof or member");
            case BAD_ARGUMENT:
                throw new IllegalArgumentException("a number is out of range");
            case BAD_STATE:
                throw new IllegalStateException("the state of the union rules this out");
            case UNSUPPORTED:
                throw new UnsupportedOperationException("too few votes, or on a picket list");
            case NO_ELEMENT:
                throw new NoSuchElementException("there is no such thing in the books");
            default:
                break;
        }
    }

    private void beginChange() {
        history[freeRow].copyFrom(books);
    }

    private void endChange() {
        freeRow = (freeRow + 1) % HISTORY_ROWS;
        if (undoableChanges < UNDO_LIMIT) {
            undoableChanges++;
        }
    }

    /** Answers the index of the failed command, or NONE. */
    private int carryOutAll() {
        beginChange();
        for (int index = 0; index < commands.count; index++) {
            Command command = commands.rows[index];
            if (books.faultOf(command) != Fault.NOTHING) {
                books.copyFrom(history[freeRow]);
                return index;
            }
            books.carryOut(command);
        }
        endChange();
        return NONE;
    }

    private static boolean isRoof(int roof) {
        return roof >= 0 && roof < ROOF_COUNT;
    }

    private static int stepsBetween(int from, int to) {
        int apart = from < to ? to - from : from - to;
        return Math.min(apart, DIRECTION_COUNT - apart);
    }

    private static int stepsByTurning(int from, int to) {
        int up = from;
        int down = from;
        int steps = 0;
        while (steps < DIRECTION_COUNT && up != to && down != to) {
            up = up == DIRECTION_COUNT - 1 ? 0 : up + 1;
            down = down == 0 ? DIRECTION_COUNT - 1 : down - 1;
            steps++;
        }
        return steps;
    }

    private static int raisedRate(int rate, int percent) {
        int raised = (rate * (100 + percent) + 99) / 100;
        return Math.min(raised, RATE_LIMIT);
    }

    /** What stands against a change; each fault has its exception in refuse. */
    private enum Fault {
        NOTHING, NO_INDEX, BAD_ARGUMENT, BAD_STATE, UNSUPPORTED, NO_ELEMENT
    }

    /** One member's page. Its place is the position on the picket list of the roof in list. */
    private static final class Member {
        int roof;
        int rate;
        int bearing;
        int wages;
        int support;
        int lost;
        int duties;
        int vote;
        boolean hasAccepted;
        int list;
        int place;

        Member() {
            list = NONE;
        }

        void start(int newRoof, int newRate) {
            roof = newRoof;
            rate = newRate;
            bearing = 0;
            wages = 0;
            support = 0;
            lost = 0;
            duties = 0;
            vote = NO_VOTE;
            hasAccepted = false;
            list = NONE;
            place = 0;
        }

        void copyFrom(Member other) {
            roof = other.roof;
            rate = other.rate;
            bearing = other.bearing;
            wages = other.wages;
            support = other.support;
            lost = other.lost;
            duties = other.duties;
            vote = other.vote;
            hasAccepted = other.hasAccepted;
            list = other.list;
            place = other.place;
        }

        boolean isAheadOf(Member later) {
            if (wages != later.wages) {
                return wages > later.wages;
            }
            // The later member has the higher number, which loses a full tie.
            return lost <= later.lost;
        }
    }

    /** Everything that a change can change: what undo and restore bring back. */
    private static final class Books {
        final Member[] members;
        int memberCount;
        int windDirection;
        int windSpeed;
        int shiftCount;
        int stepCount;
        boolean hasStrike;
        int shiftsInStrike;
        int strikeCount;
        int fund;
        int percent;
        int settlements;

        Books() {
            members = new Member[MEMBER_LIMIT];
            for (int member = 0; member < MEMBER_LIMIT; member++) {
                members[member] = new Member();
            }
        }

        void copyFrom(Books other) {
            for (int member = 0; member < other.memberCount; member++) {
                members[member].copyFrom(other.members[member]);
            }
            memberCount = other.memberCount;
            windDirection = other.windDirection;
            windSpeed = other.windSpeed;
            shiftCount = other.shiftCount;
            stepCount = other.stepCount;
            hasStrike = other.hasStrike;
            shiftsInStrike = other.shiftsInStrike;
            strikeCount = other.strikeCount;
            fund = other.fund;
            percent = other.percent;
            settlements = other.settlements;
        }

        boolean isMember(int member) {
            return member >= 0 && member < memberCount;
        }

        // -- changes: each fault function stands before the change that it guards

        Fault faultOfAdding(int roof, int rate) {
            if (!isRoof(roof)) {
                return Fault.NO_INDEX;
            }
            if (rate < 1 || rate > RATE_LIMIT_WHEN_ADDED) {
                return Fault.BAD_ARGUMENT;
            }
            return memberCount >= MEMBER_LIMIT ? Fault.BAD_STATE : Fault.NOTHING;
        }

        int add(int roof, int rate) {
            int member = memberCount;
            members[member].start(roof, rate);
            memberCount++;
            return member;
        }

        Fault faultOfWind(int direction, int speed) {
            boolean isDirection = direction >= 0 && direction < DIRECTION_COUNT;
            boolean isSpeed = speed >= 0 && speed <= SPEED_LIMIT;
            return isDirection && isSpeed ? Fault.NOTHING : Fault.BAD_ARGUMENT;
        }

        int turnWind(int direction, int speed) {
            int steps = stepsBetween(windDirection, direction);
            windDirection = direction;
            windSpeed = speed;
            return steps;
        }

        Fault faultOfPassing(int shifts) {
            return shifts < 1 || shifts > SHIFTS_PER_CALL ? Fault.BAD_ARGUMENT : Fault.NOTHING;
        }

        int pass(int shifts) {
            int steps = 0;
            for (int shift = 0; shift < shifts; shift++) {
                if (hasStrike) {
                    passStrikeShift();
                } else {
                    steps += passWorkShift();
                }
            }
            shiftCount += shifts;
            stepCount += steps;
            return steps;
        }

        private int passWorkShift() {
            int steps = 0;
            for (int number = 0; number < memberCount; number++) {
                Member member = members[number];
                steps += stepsBetween(member.bearing, windDirection);
                member.bearing = windDirection;
                if (windSpeed >= 1) {
                    member.wages += member.rate;
                }
            }
            return steps;
        }

        private void passStrikeShift() {
            shiftsInStrike++;
            for (int number = 0; number < memberCount; number++) {
                members[number].lost++;
            }
            for (int number = 0; number < memberCount; number++) {
                if (fund >= SUPPORT) {
                    fund -= SUPPORT;
                    members[number].support += SUPPORT;
                }
            }
            for (int number = 0; number < memberCount; number++) {
                if (members[number].list != NONE) {
                    standOnPicket(members[number]);
                }
            }
        }

        /** Moves one member as the turning of its whole list does; the list's length stays. */
        private void standOnPicket(Member member) {
            int length = countOnList(member.list);
            int onDuty = Math.min(length, DUTIES_PER_LIST);
            if (member.place < onDuty) {
                member.duties++;
                member.place += length - onDuty;
            } else {
                member.place -= onDuty;
            }
        }

        Fault faultOfVoting(int member) {
            if (!isMember(member)) {
                return Fault.NO_INDEX;
            }
            return hasStrike ? Fault.BAD_STATE : Fault.NOTHING;
        }

        int castVote(int member, boolean isFor) {
            members[member].vote = isFor ? VOTE_FOR : VOTE_AGAINST;
            return countVotesFor();
        }

        Fault faultOfStriking() {
            if (hasStrike) {
                return Fault.BAD_STATE;
            }
            return 2 * countVotesFor() > memberCount ? Fault.NOTHING : Fault.UNSUPPORTED;
        }

        int beginStrike() {
            for (int number = 0; number < memberCount; number++) {
                members[number].vote = NO_VOTE;
            }
            hasStrike = true;
            shiftsInStrike = 0;
            strikeCount++;
            return strikeCount;
        }

        Fault faultOfPaying(int coins) {
            if (coins < 1 || coins > COINS_PER_PAYMENT) {
                return Fault.BAD_ARGUMENT;
            }
            return fund + coins > FUND_LIMIT ? Fault.BAD_STATE : Fault.NOTHING;
        }

        int pay(int coins) {
            fund += coins;
            return fund;
        }

        Fault faultOfSigning(int roof, int member) {
            if (!isRoof(roof) || !isMember(member)) {
                return Fault.NO_INDEX;
            }
            if (!hasStrike || countOnList(roof) >= LIST_LIMIT) {
                return Fault.BAD_STATE;
            }
            return members[member].list != NONE ? Fault.UNSUPPORTED : Fault.NOTHING;
        }

        int putOnList(int roof, int member) {
            int place = countOnList(roof);
            members[member].list = roof;
            members[member].place = place;
            return place + 1;
        }

        Fault faultOfStrikingOff(int member) {
            if (!isMember(member)) {
                return Fault.NO_INDEX;
            }
            return members[member].list == NONE ? Fault.NO_ELEMENT : Fault.NOTHING;
        }

        int takeOffList(int member) {
            int roof = members[member].list;
            int place = members[member].place;
            members[member].list = NONE;
            for (int number = 0; number < memberCount; number++) {
                Member other = members[number];
                if (other.list == roof && other.place > place) {
                    other.place--;
                }
            }
            return roof;
        }

        Fault faultOfOffering(int newPercent) {
            if (newPercent < 1 || newPercent > PERCENT_LIMIT) {
                return Fault.BAD_ARGUMENT;
            }
            return hasStrike ? Fault.NOTHING : Fault.BAD_STATE;
        }

        int offer(int newPercent) {
            int removed = countAcceptances();
            for (int number = 0; number < memberCount; number++) {
                members[number].hasAccepted = false;
            }
            percent = newPercent;
            return removed;
        }

        Fault faultOfAccepting(int member) {
            if (!isMember(member)) {
                return Fault.NO_INDEX;
            }
            if (percent == NO_OFFER) {
                return Fault.NO_ELEMENT;
            }
            return members[member].hasAccepted ? Fault.BAD_STATE : Fault.NOTHING;
        }

        boolean takeAcceptance(int member) {
            members[member].hasAccepted = true;
            boolean isSettled = 2 * countAcceptances() > memberCount;
            if (isSettled) {
                settle();
            }
            return isSettled;
        }

        /** No votes need removing here: none can be cast between the call of a strike and its end. */
        private void settle() {
            for (int number = 0; number < memberCount; number++) {
                Member member = members[number];
                member.rate = raisedRate(member.rate, percent);
                member.hasAccepted = false;
                member.list = NONE;
            }
            percent = NO_OFFER;
            hasStrike = false;
            settlements++;
        }

        // -- commands

        Fault faultOf(Command command) {
            switch (command.keyword) {
                case MEMBER:
                    return faultOfAdding(command.digit, command.number);
                case WIND:
                    return faultOfWind(command.digit, command.number);
                case SHIFT:
                    return faultOfPassing(command.number);
                case VOTE:
                    return faultOfVoting(command.number);
                case STRIKE:
                    return faultOfStriking();
                case PAY:
                    return faultOfPaying(command.number);
                case PICKET:
                    return faultOfSigning(command.digit, command.number);
                case OFF:
                    return faultOfStrikingOff(command.number);
                case OFFER:
                    return faultOfOffering(command.number);
                default:
                    return faultOfAccepting(command.number);
            }
        }

        void carryOut(Command command) {
            switch (command.keyword) {
                case MEMBER:
                    add(command.digit, command.number);
                    break;
                case WIND:
                    turnWind(command.digit, command.number);
                    break;
                case SHIFT:
                    pass(command.number);
                    break;
                case VOTE:
                    castVote(command.number, command.isPlus);
                    break;
                case STRIKE:
                    beginStrike();
                    break;
                case PAY:
                    pay(command.number);
                    break;
                case PICKET:
                    putOnList(command.digit, command.number);
                    break;
                case OFF:
                    takeOffList(command.number);
                    break;
                case OFFER:
                    offer(command.number);
                    break;
                default:
                    takeAcceptance(command.number);
                    break;
            }
        }

        // -- counts, sums and searches

        int countOnRoof(int roof) {
            int count = 0;
            for (int number = 0; number < memberCount; number++) {
                if (members[number].roof == roof) {
                    count++;
                }
            }
            return count;
        }

        int countOnList(int roof) {
            int count = 0;
            for (int number = 0; number < memberCount; number++) {
                if (members[number].list == roof) {
                    count++;
                }
            }
            return count;
        }

        int findOnList(int roof, int place) {
            for (int number = 0; number < memberCount; number++) {
                Member member = members[number];
                if (member.list == roof && member.place == place) {
                    return number;
                }
            }
            return NONE;
        }

        int countVotesFor() {
            int count = 0;
            for (int number = 0; number < memberCount; number++) {
                if (members[number].vote == VOTE_FOR) {
                    count++;
                }
            }
            return count;
        }

        int countAcceptances() {
            int count = 0;
            for (int number = 0; number < memberCount; number++) {
                if (members[number].hasAccepted) {
                    count++;
                }
            }
            return count;
        }

        int findRank(int rank) {
            for (int number = 0; number < memberCount; number++) {
                if (rankOf(number) == rank) {
                    return number;
                }
            }
            return NONE;
        }

        private int rankOf(int member) {
            int ahead = 0;
            for (int number = 0; number < memberCount; number++) {
                if (number < member && members[number].isAheadOf(members[member])
                        || number > member && !members[member].isAheadOf(members[number])) {
                    ahead++;
                }
            }
            return ahead;
        }

        int divideFund() {
            return memberCount == 0 ? 0 : fund / (SUPPORT * memberCount);
        }

        int payOutCopyOfFund() {
            int left = fund;
            for (int shifts = 0; shifts < FUND_LIMIT; shifts++) {
                for (int number = 0; number < memberCount; number++) {
                    if (left < SUPPORT) {
                        return shifts;
                    }
                    left -= SUPPORT;
                }
            }
            return 0;
        }

        long sumWages() {
            long sum = 0;
            for (int number = 0; number < memberCount; number++) {
                sum += members[number].wages;
            }
            return sum;
        }

        int sumLostByMembers() {
            int sum = 0;
            for (int number = 0; number < memberCount; number++) {
                sum += members[number].lost;
            }
            return sum;
        }

        int sumLostByRoofs() {
            int sum = 0;
            for (int roof = 0; roof < ROOF_COUNT; roof++) {
                for (int number = 0; number < memberCount; number++) {
                    if (members[number].roof == roof) {
                        sum += members[number].lost;
                    }
                }
            }
            return sum;
        }
    }

    /** The beginnings of the commands, up to their first parameter; none begins another. */
    private enum Keyword {
        MEMBER("member ", true, true, false),
        WIND("wind ", true, true, false),
        SHIFT("shift ", false, true, false),
        VOTE("vote ", false, true, true),
        STRIKE("strike", false, false, false),
        PAY("pay ", false, true, false),
        PICKET("picket ", true, true, false),
        OFF("off ", false, true, false),
        OFFER("offer ", false, true, false),
        ACCEPT("accept ", false, true, false);

        final String word;
        final boolean hasDigit;
        final boolean hasNumber;
        final boolean hasSign;

        Keyword(String word, boolean hasDigit, boolean hasNumber, boolean hasSign) {
            this.word = word;
            this.hasDigit = hasDigit;
            this.hasNumber = hasNumber;
            this.hasSign = hasSign;
        }
    }

    /** A command as it was read, with the parameters that its keyword has. */
    private static final class Command {
        Keyword keyword;
        int digit;
        int number;
        boolean isPlus;

        Command() {
            keyword = Keyword.STRIKE;
        }
    }

    /** The command text, and the commands read from it; where reading stops is the error position. */
    private static final class CommandText {
        final StringBuilder text;
        final Command[] rows;
        int count;
        int position;

        CommandText() {
            text = new StringBuilder();
            rows = new Command[COMMAND_LIMIT];
            for (int row = 0; row < COMMAND_LIMIT; row++) {
                rows[row] = new Command();
            }
        }

        boolean readText() {
            position = 0;
            count = 0;
            while (count < COMMAND_LIMIT) {
                if (!readCommand(rows[count])) {
                    return false;
                }
                count++;
                if (position >= text.length()) {
                    return true;
                }
                if (!readSign(';')) {
                    return false;
                }
            }
            return false;
        }

        private boolean readCommand(Command command) {
            Keyword keyword = readKeyword();
            if (keyword == null) {
                return false;
            }
            command.keyword = keyword;
            if (keyword.hasDigit && !(readDigit(command) && readSign(' '))) {
                return false;
            }
            if (keyword.hasNumber && !readNumber(command)) {
                return false;
            }
            return !keyword.hasSign || readPlusOrMinus(command);
        }

        private Keyword readKeyword() {
            int longest = 0;
            for (Keyword keyword : KEYWORDS) {
                int common = commonLength(keyword.word);
                if (common == keyword.word.length()) {
                    position += common;
                    return keyword;
                }
                longest = Math.max(longest, common);
            }
            position += longest;
            return null;
        }

        private int commonLength(String word) {
            int length = 0;
            while (length < word.length() && isAt(position + length, word.charAt(length))) {
                length++;
            }
            return length;
        }

        private boolean readDigit(Command command) {
            int digit = digitAt(position);
            if (digit == NONE) {
                return false;
            }
            command.digit = digit;
            position++;
            return true;
        }

        private boolean readNumber(Command command) {
            int number = 0;
            int digits = 0;
            while (digits < DIGITS_PER_NUMBER && digitAt(position) != NONE) {
                number = number * 10 + digitAt(position);
                position++;
                digits++;
            }
            command.number = number;
            return digits > 0;
        }

        private boolean readPlusOrMinus(Command command) {
            command.isPlus = readSign('+');
            return command.isPlus || readSign('-');
        }

        private boolean readSign(char sign) {
            if (!isAt(position, sign)) {
                return false;
            }
            position++;
            return true;
        }

        private boolean isAt(int index, char sign) {
            return index >= 0 && index < text.length() && text.charAt(index) == sign;
        }

        private int digitAt(int index) {
            if (index < 0 || index >= text.length()) {
                return NONE;
            }
            char character = text.charAt(index);
            return character >= '0' && character <= '9' ? character - '0' : NONE;
        }
    }
}
