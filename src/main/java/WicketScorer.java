import java.util.NoSuchElementException;

/** A scorer of a bat-and-ball game like cricket, as ../shared/DOC.md describes it. */
public final class WicketScorer {
    private static final int NOBODY = -1;
    private static final int PLAYERS = 11;
    private static final int MOST_OVERS = 20;
    private static final int MOST_INNINGS = 4;
    private static final int BALLS_OF_OVER = 6;
    private static final int MOST_CHARACTERS = 60;

    // Every step takes a call of its own, and only the first 512 calls of an object count.
    private static final int MOST_STEPS = 512;

    // So many commands from before can still be undone when a new one is carried out.
    private static final int STILL_UNDOABLE = 7;

    private static final int HIT = 0;
    private static final int WIDE = 1;
    private static final int NO_BALL = 2;
    private static final int BYES = 3;
    private static final int LEG_BYES = 4;

    private static final int BOWLED = 0;
    private static final int CAUGHT = 1;
    private static final int LEG_BEFORE = 2;
    private static final int STUMPED = 3;
    private static final int RUN_OUT = 5;

    private static final int NO_MATCH = 1;
    private static final int SOMEBODY_BOWLS = 2;
    private static final int NOBODY_BOWLS = 3;
    private static final int BOWLER_NOT_ALLOWED = 4;
    private static final int BATTER_NOT_ALLOWED = 5;
    private static final int IMPOSSIBLE_BALL = 6;
    private static final int NOTHING_KEPT = 7;
    private static final int TOO_MANY_OVERS = 8;

    private final Match match = new Match();
    // Only isReplayed uses it; it is kept because a match is too large to be made in each call.
    private final Match replayed = new Match();
    private final Log log = new Log();
    private final Log saved = new Log();
    private final Text text = new Text();
    private final Row rowZero = new Row();
    private final Row rowOne = new Row();
    private int errorAt = -1;
    private int refusedAt = -1;
    private int keptReason = 0;

    public WicketScorer() {
    }

    // ---- the match

    public int begin(int overs, int innings, int first) throws IllegalArgumentException {
        if (!isWithin(overs, 1, MOST_OVERS) || !isWithin(innings, 1, 2) || !isWithin(first, 0, 1)) {
            throw new IllegalArgumentException("overs, innings or team out of range");
        }
        log.start(overs, innings, first);
        match.follow(log);
        return Overs.quota(overs);
    }

    public int bowl(int player) throws IndexOutOfBoundsException, IllegalStateException {
        if (!isPlayer(player)) {
            throw new IndexOutOfBoundsException("no such player");
        }
        return carryOut(Step.ofNumber(Step.BOWL, player));
    }

    public int ball(int kind, int runs, boolean boundary)
            throws IllegalArgumentException, IllegalStateException {
        if (!isWithin(kind, HIT, LEG_BYES) || !isWithin(runs, leastRuns(kind), mostRuns(kind))
                || boundary && !canBeBoundary(kind, runs)) {
            throw new IllegalArgumentException("no such ball");
        }
        return carryOut(Step.ofBall(kind, runs, boundary));
    }

    public int wicket(int way, int kind, boolean other, int runs, boolean crossed)
            throws IllegalArgumentException, IllegalStateException {
        if (!isWithin(way, BOWLED, RUN_OUT) || !isWithin(kind, HIT, NO_BALL) || !isWithin(runs, 0, 3)) {
            throw new IllegalArgumentException("way, kind or runs out of range");
        }
        return carryOut(Step.ofWicket(way, kind, other, runs, crossed));
    }

    public int retire(boolean other, boolean hurt) throws IllegalStateException {
        return carryOut(Step.ofRetirement(other, hurt));
    }

    public int choose(int player) throws IndexOutOfBoundsException, IllegalStateException {
        if (!isPlayer(player)) {
            throw new IndexOutOfBoundsException("no such player");
        }
        return carryOut(Step.ofNumber(Step.CHOOSE, player));
    }

    public int declare() throws IllegalStateException {
        return carryOut(Step.ofNumber(Step.DECLARE, 0));
    }

    public int loseOvers(int overs) throws IllegalArgumentException, IllegalStateException {
        if (!isWithin(overs, 1, MOST_OVERS - 1)) {
            throw new IllegalArgumentException("number of overs out of range");
        }
        return carryOut(Step.ofNumber(Step.LOSE_OVERS, overs));
    }

    private int carryOut(Step step) throws IllegalStateException {
        int refusal = match.refusal(step);
        if (refusal != 0) {
            keptReason = refusal;
            throw new IllegalStateException("the match refuses this");
        }
        if (!log.hasRoom(1)) {
            return 0;
        }
        log.add(step);
        log.endCommand();
        return match.perform(step);
    }

    // ---- text

    public int append(char character) throws IllegalArgumentException, UnsupportedOperationException {
        if (!isWithin(character, 32, 126)) {
            throw new IllegalArgumentException("character out of range");
        }
        if (text.isFull()) {
            throw new UnsupportedOperationException("the buffer is full");
        }
        return text.put(character);
    }

    public int play() throws IllegalArgumentException, UnsupportedOperationException {
        int flaw = text.parse();
        text.clear();
        if (flaw >= 0) {
            errorAt = flaw;
            throw new IllegalArgumentException("the text is malformed");
        }
        if (!log.hasRoom(text.elements())) {
            return 0;
        }
        int refused = carryOutElements();
        if (refused >= 0) {
            match.follow(log);
            refusedAt = refused;
            throw new UnsupportedOperationException("an element is refused");
        }
        return text.elements();
    }

    /** Returns -1, or the number of the element that is refused; then the log is as before. */
    private int carryOutElements() {
        int count = text.elements();
        for (int i = 0; i < count; i++) {
            int refusal = match.refusal(text.element(i));
            if (refusal != 0) {
                keptReason = refusal;
                return i;
            }
            match.perform(text.element(i));
        }
        for (int i = 0; i < count; i++) {
            log.add(text.element(i));
        }
        log.endCommand();
        return -1;
    }

    public int errorPosition() throws NoSuchElementException {
        if (errorAt < 0) {
            throw new NoSuchElementException("no text was malformed");
        }
        return errorAt;
    }

    public int refused() throws NoSuchElementException {
        if (refusedAt < 0) {
            throw new NoSuchElementException("no element was refused");
        }
        return refusedAt;
    }

    // ---- the state of the match

    public int now(int what) throws IllegalArgumentException, IllegalStateException {
        if (!isWithin(what, 0, 8)) {
            throw new IllegalArgumentException("no such number");
        }
        demandMatch();
        return match.numberOfPresent(what);
    }

    public int innings(int innings, int what) throws IndexOutOfBoundsException, IllegalArgumentException {
        demandInnings(innings);
        if (!isWithin(what, 0, Innings.TOTALS - 1)) {
            throw new IllegalArgumentException("no such number");
        }
        return match.at(innings).total(what);
    }

    public int batter(int innings, int player, int what)
            throws IndexOutOfBoundsException, IllegalArgumentException {
        demandPlayer(innings, player);
        if (!isWithin(what, 0, Innings.BATTER_NUMBERS - 1)) {
            throw new IllegalArgumentException("no such number");
        }
        return match.at(innings).batters.get(player, what);
    }

    public int bowler(int innings, int player, int what)
            throws IndexOutOfBoundsException, IllegalArgumentException {
        demandPlayer(innings, player);
        if (!isWithin(what, 0, Innings.BOWLER_NUMBERS - 1)) {
            throw new IllegalArgumentException("no such number");
        }
        return match.at(innings).bowlers.get(player, what);
    }

    public int partnership(int innings, int index, int what)
            throws IndexOutOfBoundsException, NoSuchElementException, IllegalArgumentException {
        demandInnings(innings);
        return tableNumber(match.at(innings).partnerships, index, what);
    }

    public int fall(int innings, int index, int what)
            throws IndexOutOfBoundsException, NoSuchElementException, IllegalArgumentException {
        demandInnings(innings);
        return tableNumber(match.at(innings).falls, index, what);
    }

    private static int tableNumber(Table table, int index, int what)
            throws NoSuchElementException, IllegalArgumentException {
        if (!table.hasRow(index)) {
            throw new NoSuchElementException("no such index");
        }
        if (!table.hasColumn(what)) {
            throw new IllegalArgumentException("no such number");
        }
        return table.get(index, what);
    }

    public int needed(boolean target) throws IllegalStateException, NoSuchElementException {
        demandMatch();
        if (!match.isLastPlayed()) {
            throw new NoSuchElementException("the last innings has not begun");
        }
        int goal = match.target();
        return target ? goal : Math.max(0, goal - match.present().total(Innings.RUNS));
    }

    public int result() {
        return match.outcome();
    }

    // ---- rates and rows

    public double runRate(int innings) throws IndexOutOfBoundsException, ArithmeticException {
        demandInnings(innings);
        int balls = match.at(innings).total(Innings.BALLS);
        if (balls == 0) {
            throw new ArithmeticException("no legal balls");
        }
        return (double) (match.at(innings).total(Innings.RUNS) * 6) / (double) balls;
    }

    public float strikeRate(int innings, int player) throws IndexOutOfBoundsException, ArithmeticException {
        demandPlayer(innings, player);
        Table batters = match.at(innings).batters;
        int faced = batters.get(player, Innings.BATTER_FACED);
        if (faced == 0) {
            throw new ArithmeticException("no balls faced");
        }
        return (float) (batters.get(player, Innings.BATTER_RUNS) * 100) / (float) faced;
    }

    public int storeOvers(int row, int innings, boolean exact) throws IndexOutOfBoundsException {
        demandRow(row);
        demandInnings(innings);
        return rowAt(row).store(match.at(innings), exact);
    }

    public boolean copyOvers(int from, int count) throws IndexOutOfBoundsException,
            NoSuchElementException, UnsupportedOperationException, IllegalArgumentException {
        demandRow(from);
        Row source = rowAt(from);
        Row goal = rowAt(1 - from);
        if (!source.isStored || !goal.isStored) {
            throw new NoSuchElementException("a row was not stored yet");
        }
        if (source.isExact != goal.isExact) {
            throw new UnsupportedOperationException("the rows have different element types");
        }
        if (count < 0 || count > source.length || count > goal.length) {
            throw new IllegalArgumentException("count out of range");
        }
        return goal.take(source, count);
    }

    public float storedOvers(int row, int index) throws IndexOutOfBoundsException, NoSuchElementException {
        demandRow(row);
        if (!rowAt(row).has(index)) {
            throw new NoSuchElementException("no such element");
        }
        return rowAt(row).get(index);
    }

    // ---- undo, replay, snapshot

    public int reason() {
        return keptReason;
    }

    public int commandCount() {
        return log.commands;
    }

    public int undo() throws IllegalStateException {
        if (log.undoable == 0) {
            keptReason = NOTHING_KEPT;
            throw new IllegalStateException("nothing to undo");
        }
        log.dropCommand();
        match.follow(log);
        return log.undoable;
    }

    public boolean isReplayed() throws IllegalStateException {
        demandMatch();
        replayed.follow(log);
        return replayed.isLike(match);
    }

    public int snapshot() throws IllegalStateException {
        demandMatch();
        saved.copy(log);
        return saved.commands;
    }

    public int restore() throws IllegalStateException {
        if (!saved.hasMatch()) {
            keptReason = NOTHING_KEPT;
            throw new IllegalStateException("nothing to restore");
        }
        log.copy(saved);
        match.follow(log);
        return log.commands;
    }

    // ---- what several methods demand

    private void demandMatch() throws IllegalStateException {
        if (!log.hasMatch()) {
            keptReason = NO_MATCH;
            throw new IllegalStateException("no match");
        }
    }

    private void demandInnings(int innings) throws IndexOutOfBoundsException {
        if (!match.hasBegun(innings)) {
            throw new IndexOutOfBoundsException("no such innings has begun");
        }
    }

    private void demandPlayer(int innings, int player) throws IndexOutOfBoundsException {
        if (!match.hasBegun(innings) || !isPlayer(player)) {
            throw new IndexOutOfBoundsException("no such innings has begun, or no such player");
        }
    }

    private static void demandRow(int row) throws IndexOutOfBoundsException {
        if (!isWithin(row, 0, 1)) {
            throw new IndexOutOfBoundsException("no such row");
        }
    }

    private Row rowAt(int row) {
        return row == 0 ? rowZero : rowOne;
    }

    private static boolean isWithin(int number, int least, int most) {
        return least <= number && number <= most;
    }

    private static boolean isPlayer(int player) {
        return isWithin(player, 0, PLAYERS - 1);
    }

    private static int leastRuns(int kind) {
        return kind == BYES || kind == LEG_BYES ? 1 : 0;
    }

    private static int mostRuns(int kind) {
        return kind == HIT || kind == NO_BALL ? 6 : 4;
    }

    private static boolean canBeBoundary(int kind, int runs) {
        return (kind == HIT || kind == NO_BALL) && (runs == 4 || runs == 6);
    }

    /** One thing that happens in a match: a command, or an element of a text; never changed later. */
    private static final class Step {
        static final int NOTHING = 0;
        static final int BOWL = 1;
        static final int BALL = 2;
        static final int WICKET = 3;
        static final int RETIRE = 4;
        static final int CHOOSE = 5;
        static final int DECLARE = 6;
        static final int LOSE_OVERS = 7;

        final int type;
        int number;
        int way;
        int kind;
        int runs;
        boolean other;
        boolean boundary;
        boolean crossed;
        boolean hurt;

        Step(int type) {
            this.type = type;
        }

        /** A step with a player or a number of overs. */
        static Step ofNumber(int type, int number) {
            Step step = new Step(type);
            step.number = number;
            return step;
        }

        static Step ofBall(int kind, int runs, boolean boundary) {
            Step step = new Step(BALL);
            step.kind = kind;
            step.runs = runs;
            step.boundary = boundary;
            return step;
        }

        static Step ofWicket(int way, int kind, boolean other, int runs, boolean crossed) {
            Step step = new Step(WICKET);
            step.way = way;
            step.kind = kind;
            step.other = other;
            step.runs = runs;
            step.crossed = crossed;
            return step;
        }

        static Step ofRetirement(boolean other, boolean hurt) {
            Step step = new Step(RETIRE);
            step.other = other;
            step.hurt = hurt;
            return step;
        }

        boolean isLegal() {
            return kind != WIDE && kind != NO_BALL;
        }

        int teamRuns() {
            return kind == WIDE || kind == NO_BALL ? runs + 1 : runs;
        }

        int strikerRuns() {
            return kind == HIT || kind == NO_BALL ? runs : 0;
        }

        int bowlerRuns() {
            if (kind == BYES || kind == LEG_BYES) {
                return 0;
            }
            return kind == HIT ? runs : runs + 1;
        }

        boolean changesEnds() {
            return !boundary && (runs & 1) == 1;
        }

        boolean isPossibleWicket() {
            if (way == RUN_OUT) {
                return true;
            }
            boolean kindAllows = kind == HIT || kind == WIDE && way == STUMPED;
            return kindAllows && !other && runs == 0 && (!crossed || way == CAUGHT);
        }
    }

    /** The commands of a match, from which the match itself can be made once more at any time. */
    private static final class Log {
        private final Step nothing = new Step(Step.NOTHING);
        private final Step[] steps = new Step[MOST_STEPS];
        // The element c is the number of steps of the commands 0 to c together.
        private final int[] ends = new int[MOST_STEPS];
        int overs = 0;
        int inningsEach = 0;
        int first = 0;
        int stepCount = 0;
        int commands = 0;
        int undoable = 0;

        Log() {
            for (int i = 0; i < steps.length; i++) {
                steps[i] = nothing;
            }
        }

        void start(int newOvers, int newInningsEach, int newFirst) {
            overs = newOvers;
            inningsEach = newInningsEach;
            first = newFirst;
            stepCount = 0;
            commands = 0;
            undoable = 0;
        }

        boolean hasMatch() {
            return inningsEach > 0;
        }

        boolean hasRoom(int count) {
            return stepCount + count <= steps.length && commands < ends.length;
        }

        Step step(int index) {
            return index >= 0 && index < stepCount && index < steps.length ? steps[index] : nothing;
        }

        void add(Step step) {
            if (stepCount >= 0 && stepCount < steps.length) {
                steps[stepCount] = step;
                stepCount++;
            }
        }

        void endCommand() {
            if (commands >= 0 && commands < ends.length) {
                ends[commands] = stepCount;
                commands++;
                undoable = Math.min(undoable, STILL_UNDOABLE) + 1;
            }
        }

        void dropCommand() {
            commands--;
            undoable--;
            int last = commands - 1;
            stepCount = last >= 0 && last < ends.length ? ends[last] : 0;
        }

        /** Takes over the commands of another log, none of which can be undone. */
        void copy(Log other) {
            start(other.overs, other.inningsEach, other.first);
            for (int i = 0; i < other.stepCount; i++) {
                add(other.step(i));
            }
            System.arraycopy(other.ends, 0, ends, 0, ends.length);
            commands = other.commands;
        }
    }

    /**
     * Rows of numbers; what lies outside the rows in use reads as 0 and is not written. Each method
     * tests the place by itself, because calls may stand only eight deep.
     */
    private static final class Table {
        private final int columns;
        private final int[] cells;
        private int rows = 0;

        Table(int capacity, int columns) {
            this.columns = columns;
            this.cells = new int[Math.max(0, capacity * columns)];
        }

        void restart(int newRows) {
            rows = 0;
            for (int i = 0; i < newRows; i++) {
                addRow();
            }
        }

        /** Adds a row of zeros, if there is room for it. */
        void addRow() {
            int from = rows * columns;
            if (from < 0 || from + columns > cells.length) {
                return;
            }
            rows++;
            for (int at = from; at < from + columns; at++) {
                cells[at] = 0;
            }
        }

        int lastRow() {
            return rows - 1;
        }

        boolean hasRow(int row) {
            return row >= 0 && row < rows;
        }

        boolean hasColumn(int column) {
            return column >= 0 && column < columns;
        }

        int get(int row, int column) {
            int at = row * columns + column;
            boolean isInUse = row >= 0 && row < rows && column >= 0 && column < columns;
            return isInUse && at >= 0 && at < cells.length ? cells[at] : 0;
        }

        void set(int row, int column, int number) {
            int at = row * columns + column;
            boolean isInUse = row >= 0 && row < rows && column >= 0 && column < columns;
            if (isInUse && at >= 0 && at < cells.length) {
                cells[at] = number;
            }
        }

        void increase(int row, int column, int by) {
            int at = row * columns + column;
            boolean isInUse = row >= 0 && row < rows && column >= 0 && column < columns;
            if (isInUse && at >= 0 && at < cells.length) {
                cells[at] += by;
            }
        }

        boolean isLike(Table other) {
            if (rows != other.rows || columns != other.columns) {
                return false;
            }
            for (int row = 0; row < rows; row++) {
                for (int column = 0; column < columns; column++) {
                    if (get(row, column) != other.get(row, column)) {
                        return false;
                    }
                }
            }
            return true;
        }
    }

    /** The overs of an innings: their limit, who bowls, and the runs of the team after each of them. */
    private static final class Overs {
        private final int[] runsAtEnd = new int[MOST_OVERS];
        int limit = 0;
        int limitAtFirst = 0;
        int complete = 0;
        int bowler = NOBODY;
        int bowlerBefore = NOBODY;
        int balls = 0;
        int conceded = 0;
        boolean hasBegun = false;

        static int quota(int limit) {
            return (limit + 4) / 5;
        }

        void start(int newLimit) {
            limit = newLimit;
            limitAtFirst = newLimit;
            complete = 0;
            bowlerBefore = NOBODY;
            rest();
        }

        private void rest() {
            bowler = NOBODY;
            balls = 0;
            conceded = 0;
            hasBegun = false;
        }

        void finishOver(int teamRuns) {
            if (complete >= 0 && complete < runsAtEnd.length) {
                runsAtEnd[complete] = teamRuns;
                complete++;
            }
            bowlerBefore = bowler;
            rest();
        }

        int begun() {
            return hasBegun ? complete + 1 : complete;
        }

        int runsAfter(int over, int teamRuns) {
            return over >= 0 && over < complete && over < runsAtEnd.length ? runsAtEnd[over] : teamRuns;
        }

        boolean isLike(Overs other) {
            for (int over = 0; over < complete; over++) {
                if (runsAfter(over, 0) != other.runsAfter(over, 0)) {
                    return false;
                }
            }
            return limit == other.limit && limitAtFirst == other.limitAtFirst
                    && complete == other.complete && bowler == other.bowler
                    && bowlerBefore == other.bowlerBefore && balls == other.balls
                    && conceded == other.conceded && hasBegun == other.hasBegun;
        }
    }

    /** An innings with its cards. The columns of a card are the numbers that the document lists. */
    private static final class Innings {
        static final int TOTALS = 8;
        static final int RUNS = 0;
        static final int WICKETS = 1;
        static final int BALLS = 2;
        static final int TOTAL_WIDES = 3;
        static final int TOTAL_NO_BALLS = 4;
        static final int TOTAL_BYES = 5;
        static final int TOTAL_LEG_BYES = 6;
        static final int END = 7;

        static final int OVERS_COMPLETE = 1;
        static final int NOBODY_CAME_IN = 2;
        static final int DECLARED = 3;
        static final int TARGET_REACHED = 4;

        static final int BATTER_NUMBERS = 6;
        static final int BATTER_RUNS = 0;
        static final int BATTER_FACED = 1;
        static final int BATTER_FOURS = 2;
        static final int BATTER_SIXES = 3;
        static final int BATTER_STANDS = 4;
        static final int BATTER_TAKEN_BY = 5;

        static final int NOT_BATTED = -2;
        static final int BATTING = -1;
        static final int RETIRED_HURT = 6;
        static final int RETIRED_OUT = 7;

        static final int BOWLER_NUMBERS = 7;
        static final int BOWLER_BALLS = 0;
        static final int BOWLER_RUNS = 1;
        static final int BOWLER_WICKETS = 2;
        static final int BOWLER_MAIDENS = 3;
        static final int BOWLER_WIDES = 4;
        static final int BOWLER_NO_BALLS = 5;
        static final int BOWLER_OVERS = 6;

        static final int PARTNERSHIP_NUMBERS = 8;
        static final int PAIR_RUNS = 0;
        static final int PAIR_BALLS = 1;
        static final int PAIR_LOWER = 2;
        static final int PAIR_HIGHER = 3;
        static final int PAIR_LOWER_RUNS = 4;
        static final int PAIR_HIGHER_RUNS = 5;
        static final int PAIR_EXTRAS = 6;
        static final int PAIR_LASTS = 7;

        static final int FALL_NUMBERS = 3;
        static final int FALL_BATTER = 0;
        static final int FALL_RUNS = 1;
        static final int FALL_BALLS = 2;

        final Table totals = new Table(1, TOTALS);
        final Table batters = new Table(PLAYERS, BATTER_NUMBERS);
        final Table bowlers = new Table(PLAYERS, BOWLER_NUMBERS);
        // A retirement brings a partnership, and batters who are hurt can return without end.
        final Table partnerships = new Table(MOST_STEPS + 1, PARTNERSHIP_NUMBERS);
        final Table falls = new Table(PLAYERS, FALL_NUMBERS);
        final Overs overs = new Overs();
        int resources = 0;
        int striker = 0;
        int other = 1;
        int chosen = NOBODY;
        boolean nobodyCameIn = false;

        void start(int limit, boolean hasResources) {
            totals.restart(1);
            batters.restart(PLAYERS);
            bowlers.restart(PLAYERS);
            partnerships.restart(0);
            falls.restart(0);
            overs.start(limit);
            for (int player = 0; player < PLAYERS; player++) {
                batters.set(player, BATTER_STANDS, player < 2 ? BATTING : NOT_BATTED);
                batters.set(player, BATTER_TAKEN_BY, NOBODY);
            }
            resources = hasResources ? value() : 0;
            striker = 0;
            other = 1;
            chosen = NOBODY;
            nobodyCameIn = false;
            beginPartnership();
        }

        int total(int what) {
            return totals.get(0, what);
        }

        private int value() {
            int left = BALLS_OF_OVER * overs.limit - totals.get(0, BALLS);
            return (10 - totals.get(0, WICKETS)) * (240 * left - left * left);
        }

        // ---- bowlers

        int bowlRefusal(int player) {
            if (overs.bowler != NOBODY) {
                return SOMEBODY_BOWLS;
            }
            boolean hasDoneAll = completeOvers(player) >= Overs.quota(overs.limitAtFirst);
            return player == overs.bowlerBefore || hasDoneAll ? BOWLER_NOT_ALLOWED : 0;
        }

        private int completeOvers(int player) {
            return bowlers.get(player, BOWLER_OVERS);
        }

        int startOver(int player) {
            overs.bowler = player;
            return completeOvers(player);
        }

        private void finishOver() {
            if (overs.balls < BALLS_OF_OVER) {
                return;
            }
            changeEnds();
            bowlers.increase(overs.bowler, BOWLER_OVERS, 1);
            bowlers.increase(overs.bowler, BOWLER_MAIDENS, overs.conceded == 0 ? 1 : 0);
            overs.finishOver(total(RUNS));
        }

        boolean canLose(int lost) {
            return overs.limit - lost > overs.begun();
        }

        int lowerLimit(int lost) {
            int valueBefore = value();
            overs.limit -= lost;
            resources -= valueBefore - value();
            return overs.limit;
        }

        // ---- balls

        int scoreBall(Step ball) {
            count(ball);
            finishOver();
            return ball.teamRuns();
        }

        int scoreWicket(Step ball) {
            int out = ball.other ? other : striker;
            int next = nextBatter();
            count(ball);
            if (ball.crossed) {
                changeEnds();
            }
            countWicket(out, ball.way);
            leave(out, ball.way, next);
            finishOver();
            return total(WICKETS);
        }

        /** Counts all of a ball but its wicket and the end of its over. */
        private void count(Step ball) {
            totals.increase(0, RUNS, ball.teamRuns());
            totals.increase(0, BALLS, ball.isLegal() ? 1 : 0);
            countExtras(ball);
            countForBowler(ball);
            countForStriker(ball);
            countForPartnership(ball);
            if (ball.changesEnds()) {
                changeEnds();
            }
        }

        private void countExtras(Step ball) {
            switch (ball.kind) {
                case WIDE:
                    totals.increase(0, TOTAL_WIDES, ball.teamRuns());
                    break;
                case NO_BALL:
                    totals.increase(0, TOTAL_NO_BALLS, 1);
                    break;
                case BYES:
                    totals.increase(0, TOTAL_BYES, ball.runs);
                    break;
                case LEG_BYES:
                    totals.increase(0, TOTAL_LEG_BYES, ball.runs);
                    break;
                default:
                    break;
            }
        }

        private void countForBowler(Step ball) {
            int legal = ball.isLegal() ? 1 : 0;
            overs.hasBegun = true;
            overs.balls += legal;
            overs.conceded += ball.bowlerRuns();
            bowlers.increase(overs.bowler, BOWLER_BALLS, legal);
            bowlers.increase(overs.bowler, BOWLER_RUNS, ball.bowlerRuns());
            bowlers.increase(overs.bowler, BOWLER_WIDES, ball.kind == WIDE ? 1 : 0);
            bowlers.increase(overs.bowler, BOWLER_NO_BALLS, ball.kind == NO_BALL ? 1 : 0);
        }

        private void countForStriker(Step ball) {
            batters.increase(striker, BATTER_RUNS, ball.strikerRuns());
            batters.increase(striker, BATTER_FACED, ball.kind == WIDE ? 0 : 1);
            if (ball.boundary) {
                batters.increase(striker, ball.runs == 4 ? BATTER_FOURS : BATTER_SIXES, 1);
            }
        }

        private void countForPartnership(Step ball) {
            int pair = partnerships.lastRow();
            partnerships.increase(pair, PAIR_RUNS, ball.teamRuns());
            partnerships.increase(pair, PAIR_BALLS, ball.isLegal() ? 1 : 0);
            partnerships.increase(pair, striker < other ? PAIR_LOWER_RUNS : PAIR_HIGHER_RUNS,
                    ball.strikerRuns());
            partnerships.increase(pair, PAIR_EXTRAS, ball.teamRuns() - ball.strikerRuns());
        }

        private void countWicket(int out, int way) {
            totals.increase(0, WICKETS, 1);
            falls.addRow();
            falls.set(falls.lastRow(), FALL_BATTER, out);
            falls.set(falls.lastRow(), FALL_RUNS, total(RUNS));
            falls.set(falls.lastRow(), FALL_BALLS, total(BALLS));
            if (way != RUN_OUT) {
                batters.set(out, BATTER_TAKEN_BY, overs.bowler);
                bowlers.increase(overs.bowler, BOWLER_WICKETS, 1);
            }
        }

        private void changeEnds() {
            int before = striker;
            striker = other;
            other = before;
        }

        // ---- batters

        int retireBatter(Step step) {
            int next = nextBatter();
            leave(step.other ? other : striker, step.hurt ? RETIRED_HURT : RETIRED_OUT, next);
            return next;
        }

        boolean canComeIn(int player) {
            int stands = batters.get(player, BATTER_STANDS);
            return stands == NOT_BATTED || stands == RETIRED_HURT;
        }

        int chooseNext(int player) {
            int before = nextBatter();
            chosen = player;
            return before;
        }

        int nextBatter() {
            if (chosen != NOBODY) {
                return chosen;
            }
            int fresh = lowestWhoStands(NOT_BATTED);
            return fresh != NOBODY ? fresh : lowestWhoStands(RETIRED_HURT);
        }

        private int lowestWhoStands(int stands) {
            for (int player = 0; player < PLAYERS; player++) {
                if (batters.get(player, BATTER_STANDS) == stands) {
                    return player;
                }
            }
            return NOBODY;
        }

        /** The next batter is told, for who leaves hurt must not follow upon himself. */
        private void leave(int player, int stands, int next) {
            batters.set(player, BATTER_STANDS, stands);
            partnerships.set(partnerships.lastRow(), PAIR_LASTS, 0);
            if (next == NOBODY) {
                nobodyCameIn = true;
                return;
            }
            if (player == striker) {
                striker = next;
            } else {
                other = next;
            }
            chosen = NOBODY;
            batters.set(next, BATTER_STANDS, BATTING);
            beginPartnership();
        }

        private void beginPartnership() {
            partnerships.addRow();
            int pair = partnerships.lastRow();
            partnerships.set(pair, PAIR_LOWER, Math.min(striker, other));
            partnerships.set(pair, PAIR_HIGHER, Math.max(striker, other));
            partnerships.set(pair, PAIR_LASTS, 1);
        }

        // ---- end

        /** Why the innings is to end, as far as the innings alone can tell, or 0. */
        int ending() {
            if (nobodyCameIn) {
                return NOBODY_CAME_IN;
            }
            return overs.complete >= overs.limit ? OVERS_COMPLETE : 0;
        }

        void finish(int end) {
            totals.set(0, END, end);
            chosen = NOBODY;
        }

        boolean isLike(Innings that) {
            return totals.isLike(that.totals) && batters.isLike(that.batters)
                    && bowlers.isLike(that.bowlers) && partnerships.isLike(that.partnerships)
                    && falls.isLike(that.falls) && overs.isLike(that.overs)
                    && resources == that.resources && striker == that.striker && other == that.other
                    && chosen == that.chosen && nobodyCameIn == that.nobodyCameIn;
        }
    }

    /** A match: its innings one after the other, its target and its outcome. */
    private static final class Match {
        private final Innings[] all = new Innings[MOST_INNINGS];
        private boolean exists = false;
        private boolean isOver = false;
        private int inningsEach = 0;
        private int first = 0;
        private int number = 0;

        Match() {
            for (int i = 0; i < all.length; i++) {
                all[i] = new Innings();
            }
        }

        /** Makes this the match that the commands of a log lead to. */
        void follow(Log log) {
            exists = log.hasMatch();
            if (!exists) {
                return;
            }
            isOver = false;
            inningsEach = log.inningsEach;
            first = log.first;
            number = 0;
            present().start(log.overs, hasResources());
            for (int i = 0; i < log.stepCount; i++) {
                perform(log.step(i));
            }
        }

        boolean hasBegun(int innings) {
            return exists && innings >= 0 && innings <= number;
        }

        /** Numbers outside the match stand for its nearest innings; callers ask hasBegun before. */
        Innings at(int innings) {
            int index = Math.max(0, Math.min(innings, MOST_INNINGS - 1));
            return all[index];
        }

        Innings present() {
            return at(number);
        }

        private boolean hasResources() {
            return inningsEach == 1;
        }

        private int lastNumber() {
            return 2 * inningsEach - 1;
        }

        boolean isLastPlayed() {
            return number == lastNumber();
        }

        private int battingTeam(int innings) {
            return (innings & 1) == 0 ? first : 1 - first;
        }

        // ---- steps

        /** The reason for which a step cannot be carried out now, or 0. */
        int refusal(Step step) {
            if (!exists || isOver) {
                return NO_MATCH;
            }
            Innings now = present();
            switch (step.type) {
                case Step.BOWL:
                    return now.bowlRefusal(step.number);
                case Step.BALL:
                    return now.overs.bowler == NOBODY ? NOBODY_BOWLS : 0;
                case Step.WICKET:
                    if (now.overs.bowler == NOBODY) {
                        return NOBODY_BOWLS;
                    }
                    return step.isPossibleWicket() ? 0 : IMPOSSIBLE_BALL;
                case Step.CHOOSE:
                    return now.canComeIn(step.number) ? 0 : BATTER_NOT_ALLOWED;
                case Step.LOSE_OVERS:
                    return hasResources() && now.canLose(step.number) ? 0 : TOO_MANY_OVERS;
                default:
                    return 0;
            }
        }

        /** Carries out a step that is not refused, and returns what its method answers. */
        int perform(Step step) {
            Innings now = present();
            int answer = 0;
            switch (step.type) {
                case Step.BOWL:
                    answer = now.startOver(step.number);
                    break;
                case Step.BALL:
                    answer = now.scoreBall(step);
                    break;
                case Step.WICKET:
                    answer = now.scoreWicket(step);
                    break;
                case Step.RETIRE:
                    answer = now.retireBatter(step);
                    break;
                case Step.CHOOSE:
                    answer = now.chooseNext(step.number);
                    break;
                case Step.DECLARE:
                    answer = now.total(Innings.RUNS);
                    break;
                case Step.LOSE_OVERS:
                    answer = now.lowerLimit(step.number);
                    break;
                default:
                    break;
            }
            int end = dueEnd(step.type == Step.DECLARE);
            if (end != 0) {
                now.finish(end);
                goOn();
            }
            return answer;
        }

        /** Why the present innings is to end, the greatest of several reasons, or 0. */
        private int dueEnd(boolean declared) {
            Innings now = present();
            if (isLastPlayed() && now.total(Innings.RUNS) >= target()) {
                return Innings.TARGET_REACHED;
            }
            return declared ? Innings.DECLARED : now.ending();
        }

        private void goOn() {
            boolean isLastNext = number + 1 == lastNumber();
            if (isLastPlayed() || isLastNext && !hasResources() && target() <= 0) {
                isOver = true;
                return;
            }
            int limit = present().overs.limit;
            number++;
            present().start(limit, hasResources());
        }

        // ---- target and outcome

        int target() {
            int runs = at(0).total(Innings.RUNS);
            if (hasResources()) {
                return revisedTarget(runs, at(0).resources, at(1).resources);
            }
            return runs + at(2).total(Innings.RUNS) - at(1).total(Innings.RUNS) + 1;
        }

        private static int revisedTarget(long runs, long before, long after) {
            if (after > before) {
                return (int) (runs + 150 * (after - before) / 144000) + 1;
            }
            return before > 0 ? (int) (runs * after / before) + 1 : 1;
        }

        int outcome() {
            if (!exists || !isOver) {
                return 0;
            }
            int last = battingTeam(lastNumber());
            if (!isLastPlayed() || present().total(Innings.RUNS) >= target()) {
                return 1 + last;
            }
            return present().total(Innings.RUNS) == target() - 1 ? 3 : 2 - last;
        }

        int numberOfPresent(int what) {
            Innings now = present();
            switch (what) {
                case 0:
                    return number;
                case 1:
                    return battingTeam(number);
                case 2:
                    return now.striker;
                case 3:
                    return now.other;
                case 4:
                    return isOver && !now.overs.hasBegun ? NOBODY : now.overs.bowler;
                case 5:
                    return now.overs.balls;
                case 6:
                    return now.nextBatter();
                case 7:
                    return now.overs.limit;
                default:
                    return now.resources;
            }
        }

        boolean isLike(Match that) {
            if (exists != that.exists || isOver != that.isOver || inningsEach != that.inningsEach
                    || first != that.first || number != that.number) {
                return false;
            }
            for (int i = 0; i <= number; i++) {
                if (!at(i).isLike(that.at(i))) {
                    return false;
                }
            }
            return true;
        }
    }

    /** The input buffer, and the elements of the text that was parsed last. */
    private static final class Text {
        private final char[] buffer = new char[MOST_CHARACTERS];
        private final Step nothing = new Step(Step.NOTHING);
        private final Step[] parsed = new Step[MOST_CHARACTERS];
        private int length = 0;
        private int count = 0;

        Text() {
            for (int i = 0; i < parsed.length; i++) {
                parsed[i] = nothing;
            }
        }

        boolean isFull() {
            return length >= buffer.length;
        }

        int put(char character) {
            if (length >= 0 && length < buffer.length) {
                buffer[length] = character;
                length++;
            }
            return length;
        }

        void clear() {
            length = 0;
        }

        int elements() {
            return count;
        }

        Step element(int index) {
            return index >= 0 && index < parsed.length ? parsed[index] : nothing;
        }

        /** The character at an index, or one that no text can hold where there is none. */
        private char sign(int index) {
            return index >= 0 && index < length && index < buffer.length ? buffer[index] : (char) 0;
        }

        /** Parses the text; returns its error position, or -1 if it is well-formed. */
        int parse() {
            count = 0;
            int at = 0;
            while (at < length) {
                char sign = sign(at);
                char next = sign(at + 1);
                if (!isFirst(sign)) {
                    return at;
                }
                boolean isPair = isWithin(next, leastSecond(sign), mostSecond(sign));
                if (!isPair && needsSecond(sign)) {
                    return at + 1;
                }
                keep(isPair ? pair(sign, next) : single(sign));
                at += isPair ? 2 : 1;
            }
            return length == 0 ? 0 : -1;
        }

        private void keep(Step step) {
            if (count >= 0 && count < parsed.length) {
                parsed[count] = step;
                count++;
            }
        }

        private static boolean isFirst(char sign) {
            switch (sign) {
                case '.':
                case 'w':
                case 'n':
                case 'W':
                case 'C':
                case 'L':
                case 'R':
                    return true;
                default:
                    return isWithin(sign, '1', '6') || needsSecond(sign);
            }
        }

        private static boolean needsSecond(char sign) {
            return sign == 'b' || sign == 'l' || sign == '@';
        }

        private static int leastSecond(char sign) {
            return sign == '@' ? 'a' : '1';
        }

        /** The greatest character that can belong to an element as its second; 0 if none can. */
        private static int mostSecond(char sign) {
            switch (sign) {
                case 'w':
                case 'b':
                case 'l':
                    return '4';
                case 'n':
                    return '6';
                case '@':
                    return 'k';
                default:
                    return 0;
            }
        }

        private static Step pair(char sign, char next) {
            int runs = next - '0';
            switch (sign) {
                case '@':
                    return Step.ofNumber(Step.BOWL, next - 'a');
                case 'w':
                    return Step.ofBall(WIDE, runs, false);
                case 'n':
                    return Step.ofBall(NO_BALL, runs, canBeBoundary(NO_BALL, runs));
                case 'b':
                    return Step.ofBall(BYES, runs, false);
                default:
                    return Step.ofBall(LEG_BYES, runs, false);
            }
        }

        private static Step single(char sign) {
            switch (sign) {
                case '.':
                    return Step.ofBall(HIT, 0, false);
                case 'w':
                    return Step.ofBall(WIDE, 0, false);
                case 'n':
                    return Step.ofBall(NO_BALL, 0, false);
                case 'W':
                    return Step.ofWicket(BOWLED, HIT, false, 0, false);
                case 'C':
                    return Step.ofWicket(CAUGHT, HIT, false, 0, false);
                case 'L':
                    return Step.ofWicket(LEG_BEFORE, HIT, false, 0, false);
                case 'R':
                    return Step.ofWicket(RUN_OUT, HIT, false, 0, false);
                default:
                    return Step.ofBall(HIT, sign - '0', canBeBoundary(HIT, sign - '0'));
            }
        }
    }

    /** A row of runs by overs. Ints are kept as floats too, which hold all runs of a match exactly. */
    private static final class Row {
        private final float[] elements = new float[MOST_OVERS];
        boolean isStored = false;
        boolean isExact = false;
        int length = 0;

        int store(Innings innings, boolean exact) {
            isStored = true;
            isExact = exact;
            length = innings.overs.begun();
            for (int over = 0; over < length && over < elements.length; over++) {
                int runs = innings.overs.runsAfter(over, innings.total(Innings.RUNS));
                elements[over] = exact ? (float) runs : (float) runs / (float) (over + 1);
            }
            return length;
        }

        boolean has(int index) {
            return isStored && index >= 0 && index < length;
        }

        float get(int index) {
            return index >= 0 && index < elements.length ? elements[index] : 0;
        }

        /** Takes over the first elements of another row; returns whether one is another now. */
        boolean take(Row source, int count) {
            boolean hasChanged = false;
            for (int i = 0; i < count && i < elements.length; i++) {
                float element = source.get(i);
                hasChanged = hasChanged || elements[i] != element;
                elements[i] = element;
            }
            return hasChanged;
        }
    }
}
