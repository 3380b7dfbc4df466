import java.util.ArrayList;
import java.util.Arrays;
import java.util.List;
import java.util.NoSuchElementException;
import java.util.function.Predicate;
import java.util.regex.Pattern;

/**
 * The document once more, in another way than the program: it keeps a list of balls and counts every
 * card anew from it, and undoes by copies of the whole match.
 */
final class Oracle {
    static final class Ball {
        int over;
        int bowler;
        int striker;
        int pair;
        int kind;
        int runs;
        boolean boundary;
        int way = -1;
        int out = -1;

        boolean legal() {
            return kind == 0 || kind > 2;
        }

        int team() {
            return runs + (legal() ? 0 : 1);
        }

        int bat() {
            return kind == 0 || kind == 2 ? runs : 0;
        }

        int conceded() {
            return kind > 2 ? 0 : team();
        }
    }

    static final class Turn {
        int limit;
        int limitAtFirst;
        int resources;
        int end;
        int[] at = {0, 1};
        int[] stands = new int[11];
        int bowler = -1;
        int chosen = -1;
        List<Ball> balls = new ArrayList<>();
        List<int[]> pairs = new ArrayList<>();
        List<Integer> bowlersOfOvers = new ArrayList<>();

        Turn(int limit, boolean hasResources) {
            this.limit = limit;
            limitAtFirst = limit;
            Arrays.fill(stands, -2);
            stands[0] = -1;
            stands[1] = -1;
            pairs.add(new int[] {0, 1, 1});
            resources = hasResources ? value(6 * limit, 0) : 0;
        }

        Turn(Turn from) {
            limit = from.limit;
            limitAtFirst = from.limitAtFirst;
            resources = from.resources;
            end = from.end;
            at = from.at.clone();
            stands = from.stands.clone();
            bowler = from.bowler;
            chosen = from.chosen;
            balls.addAll(from.balls);
            for (int[] pair : from.pairs) {
                pairs.add(pair.clone());
            }
            bowlersOfOvers.addAll(from.bowlersOfOvers);
        }

        int sum(Predicate<Ball> which, java.util.function.ToIntFunction<Ball> what) {
            return balls.stream().filter(which).mapToInt(what).sum();
        }

        int runs() {
            return sum(b -> true, Ball::team);
        }

        int legal() {
            return sum(Ball::legal, b -> 1);
        }

        int wickets() {
            return sum(b -> b.way >= 0, b -> 1);
        }

        int ofOver(int over, Predicate<Ball> which, java.util.function.ToIntFunction<Ball> what) {
            return sum(b -> b.over == over && which.test(b), what);
        }

        boolean overBegun() {
            return balls.stream().anyMatch(b -> b.over == bowlersOfOvers.size());
        }

        int next() {
            if (chosen >= 0) {
                return chosen;
            }
            for (int wanted : new int[] {-2, 6}) {
                for (int p = 0; p < 11; p++) {
                    if (stands[p] == wanted) {
                        return p;
                    }
                }
            }
            return -1;
        }

        void swap() {
            at = new int[] {at[1], at[0]};
        }

        void leave(int who, int how, int next) {
            stands[who] = how;
            pairs.get(pairs.size() - 1)[2] = 0;
            if (next < 0) {
                return;
            }
            at[at[0] == who ? 0 : 1] = next;
            stands[next] = -1;
            chosen = -1;
            pairs.add(new int[] {Math.min(at[0], at[1]), Math.max(at[0], at[1]), 1});
        }
    }

    static final class Game {
        int each;
        int first;
        boolean over;
        int commands;
        List<Turn> turns = new ArrayList<>();

        Game copy() {
            Game copy = new Game();
            copy.each = each;
            copy.first = first;
            copy.over = over;
            copy.commands = commands;
            for (Turn turn : turns) {
                copy.turns.add(new Turn(turn));
            }
            return copy;
        }

        Turn turn() {
            return turns.get(turns.size() - 1);
        }
    }

    private Game game;
    private Game kept;
    private List<Game> past = new ArrayList<>();
    private String buffer = "";
    private int error = -1;
    private int refusedAt = -1;
    private int why;
    private final float[][] rows = new float[2][];
    private final boolean[] exactRows = new boolean[2];

    static int value(int b, int w) {
        return (10 - w) * (240 * b - b * b);
    }

    private static void arguments(boolean fine) {
        if (!fine) {
            throw new IllegalArgumentException();
        }
    }

    private static void bounds(boolean fine) {
        if (!fine) {
            throw new IndexOutOfBoundsException();
        }
    }

    private static void element(boolean fine) {
        if (!fine) {
            throw new NoSuchElementException();
        }
    }

    private void state(boolean fine, int reason) {
        if (!fine) {
            why = reason;
            throw new IllegalStateException();
        }
    }

    private void on() {
        state(game != null && !game.over, 1);
    }

    private void command(Runnable change) {
        Game before = game.copy();
        change.run();
        remember(before);
    }

    private void remember(Game before) {
        while (past.size() > 7) {
            past.remove(0);
        }
        past.add(before);
        game.commands++;
    }

    int begin(int overs, int innings, int first) {
        arguments(overs >= 1 && overs <= 20 && (innings == 1 || innings == 2) && (first == 0 || first == 1));
        game = new Game();
        game.each = innings;
        game.first = first;
        game.turns.add(new Turn(overs, innings == 1));
        past.clear();
        return (int) Math.ceil(overs / 5.0);
    }

    int bowl(int player) {
        bounds(player >= 0 && player <= 10);
        on();
        Turn t = game.turn();
        state(t.bowler < 0, 2);
        List<Integer> done = t.bowlersOfOvers;
        int count = (int) done.stream().filter(b -> b == player).count();
        boolean before = !done.isEmpty() && done.get(done.size() - 1) == player;
        state(!before && count < (int) Math.ceil(t.limitAtFirst / 5.0), 4);
        command(() -> game.turn().bowler = player);
        return count;
    }

    int ball(int kind, int runs, boolean boundary) {
        int[] least = {0, 0, 0, 1, 1};
        int[] most = {6, 4, 6, 4, 4};
        arguments(kind >= 0 && kind <= 4);
        arguments(runs >= least[kind] && runs <= most[kind]);
        arguments(!boundary || (kind == 0 || kind == 2) && (runs == 4 || runs == 6));
        on();
        state(game.turn().bowler >= 0, 3);
        Ball ball = new Ball();
        ball.kind = kind;
        ball.runs = runs;
        ball.boundary = boundary;
        command(() -> bowled(ball, false, false));
        return ball.team();
    }

    int wicket(int way, int kind, boolean other, int runs, boolean crossed) {
        arguments(way >= 0 && way <= 5 && kind >= 0 && kind <= 2 && runs >= 0 && runs <= 3);
        on();
        state(game.turn().bowler >= 0, 3);
        boolean possible = way == 5 || !other && runs == 0;
        possible &= !crossed || way == 1 || way == 5;
        possible &= kind != 1 || way == 3 || way == 5;
        possible &= kind != 2 || way == 5;
        state(possible, 6);
        Ball ball = new Ball();
        ball.kind = kind;
        ball.runs = runs;
        ball.way = way;
        Turn t = game.turn();
        int wickets = t.wickets() + 1;
        command(() -> bowled(ball, other, crossed));
        return wickets;
    }

    private void bowled(Ball ball, boolean other, boolean crossed) {
        Turn t = game.turn();
        ball.over = t.bowlersOfOvers.size();
        ball.bowler = t.bowler;
        ball.striker = t.at[0];
        ball.pair = t.pairs.size() - 1;
        t.balls.add(ball);
        int next = t.next();
        boolean gone = false;
        if (ball.way >= 0) {
            ball.out = t.at[other ? 1 : 0];
        }
        if (!ball.boundary && ball.runs % 2 == 1) {
            t.swap();
        }
        if (crossed) {
            t.swap();
        }
        if (ball.way >= 0) {
            t.leave(ball.out, ball.way, next);
            gone = next < 0;
        }
        if (t.ofOver(ball.over, Ball::legal, b -> 1) == 6) {
            t.swap();
            t.bowlersOfOvers.add(t.bowler);
            t.bowler = -1;
        }
        finish(t.bowlersOfOvers.size() >= t.limit ? 1 : 0, gone ? 2 : 0);
    }

    private void finish(int... reasons) {
        Turn t = game.turn();
        int end = Arrays.stream(reasons).max().getAsInt();
        int last = 2 * game.each;
        if (game.turns.size() == last && t.runs() >= target()) {
            end = Math.max(end, 4);
        }
        if (end == 0) {
            return;
        }
        t.end = end;
        t.chosen = -1;
        if (game.turns.size() == last || game.turns.size() == last - 1 && game.each == 2 && target() <= 0) {
            game.over = true;
        } else {
            game.turns.add(new Turn(t.limit, game.each == 1));
        }
    }

    private int target() {
        List<Turn> ts = game.turns;
        if (game.each == 2) {
            return ts.get(0).runs() + ts.get(2).runs() - ts.get(1).runs() + 1;
        }
        int t = ts.get(0).runs();
        long r = ts.get(0).resources;
        long s = ts.get(1).resources;
        return (int) (s <= r ? Math.floorDiv(t * s, r) + 1 : t + Math.floorDiv(150 * (s - r), 144000L) + 1);
    }

    int retire(boolean other, boolean hurt) {
        on();
        int next = game.turn().next();
        command(() -> {
            Turn t = game.turn();
            t.leave(t.at[other ? 1 : 0], hurt ? 6 : 7, next);
            finish(next < 0 ? 2 : 0);
        });
        return next;
    }

    int choose(int player) {
        bounds(player >= 0 && player <= 10);
        on();
        int stands = game.turn().stands[player];
        state(stands == -2 || stands == 6, 5);
        int next = game.turn().next();
        command(() -> game.turn().chosen = player);
        return next;
    }

    int declare() {
        on();
        int runs = game.turn().runs();
        command(() -> finish(3));
        return runs;
    }

    int loseOvers(int overs) {
        arguments(overs >= 1 && overs <= 19);
        on();
        Turn t = game.turn();
        int begun = t.bowlersOfOvers.size() + (t.overBegun() ? 1 : 0);
        state(game.each == 1 && t.limit - overs > begun, 8);
        int then = t.limit - overs;
        command(() -> {
            int left = 6 * t.limit - t.legal();
            t.resources -= value(left, t.wickets()) - value(left - 6 * overs, t.wickets());
            t.limit = then;
            finish(0);
        });
        return then;
    }

    int append(char character) {
        arguments(character >= 32 && character <= 126);
        if (buffer.length() == 60) {
            throw new UnsupportedOperationException();
        }
        buffer += character;
        return buffer.length();
    }

    private static final String ONE = "(\\.|[1-6]|w[1-4]?|n[1-6]?|[bl][1-4]|[WCLR]|@[a-k])";
    private static final Pattern WHOLE = Pattern.compile(ONE + "+");
    private static final Pattern FIRST = Pattern.compile(ONE);

    private static boolean canGoOn(String text) {
        return text.isEmpty() || WHOLE.matcher(text).matches() || WHOLE.matcher(text + "1").matches()
                || WHOLE.matcher(text + "a").matches();
    }

    int play() {
        String text = buffer;
        buffer = "";
        if (!WHOLE.matcher(text).matches()) {
            error = 0;
            while (error < text.length() && canGoOn(text.substring(0, error + 1))) {
                error++;
            }
            throw new IllegalArgumentException();
        }
        Game before = game == null ? null : game.copy();
        List<Game> pastBefore = new ArrayList<>(past);
        var elements = FIRST.matcher(text).results().map(m -> m.group()).toList();
        for (int i = 0; i < elements.size(); i++) {
            try {
                element(elements.get(i));
            } catch (IllegalStateException refused) {
                game = before;
                past = pastBefore;
                refusedAt = i;
                throw new UnsupportedOperationException();
            }
        }
        past = pastBefore;
        game.commands = before.commands;
        remember(before);
        return elements.size();
    }

    private void element(String text) {
        char sign = text.charAt(0);
        int second = text.length() > 1 ? text.charAt(1) : '0';
        int digit = second - '0';
        if (sign == '@') {
            bowl(second - 'a');
        } else if (sign == '.') {
            ball(0, 0, false);
        } else if ("WCLR".indexOf(sign) >= 0) {
            wicket(sign == 'W' ? 0 : sign == 'C' ? 1 : sign == 'L' ? 2 : 5, 0, false, 0, false);
        } else if (Character.isDigit(sign)) {
            ball(0, sign - '0', sign == '4' || sign == '6');
        } else {
            int kind = " wnbl".indexOf(sign);
            ball(kind, digit, kind == 2 && (digit == 4 || digit == 6));
        }
    }

    int errorPosition() {
        element(error >= 0);
        return error;
    }

    int refused() {
        element(refusedAt >= 0);
        return refusedAt;
    }

    int now(int what) {
        arguments(what >= 0 && what <= 8);
        state(game != null, 1);
        Turn t = game.turn();
        int[] numbers = {game.turns.size() - 1, team(game.turns.size() - 1), t.at[0], t.at[1],
            game.over && !t.overBegun() ? -1 : t.bowler,
            t.ofOver(t.bowlersOfOvers.size(), Ball::legal, b -> 1), t.next(), t.limit, t.resources};
        return numbers[what];
    }

    private int team(int innings) {
        return innings % 2 == 0 ? game.first : 1 - game.first;
    }

    private Turn begun(int innings) {
        bounds(game != null && innings >= 0 && innings < game.turns.size());
        return game.turns.get(innings);
    }

    int innings(int innings, int what) {
        Turn t = begun(innings);
        arguments(what >= 0 && what <= 7);
        switch (what) {
            case 0:
                return t.runs();
            case 1:
                return t.wickets();
            case 2:
                return t.legal();
            case 3:
                return t.sum(b -> b.kind == 1, Ball::team);
            case 4:
                return t.sum(b -> b.kind == 2, b -> 1);
            case 5:
            case 6:
                return t.sum(b -> b.kind == what - 2, Ball::team);
            default:
                return t.end;
        }
    }

    int batter(int innings, int player, int what) {
        Turn t = begun(innings);
        bounds(player >= 0 && player <= 10);
        arguments(what >= 0 && what <= 5);
        switch (what) {
            case 0:
                return t.sum(b -> b.striker == player, Ball::bat);
            case 1:
                return t.sum(b -> b.striker == player && b.kind != 1, b -> 1);
            case 2:
            case 3:
                return t.sum(b -> b.striker == player && b.boundary && b.runs == 2 * what, b -> 1);
            case 4:
                return t.stands[player];
            default:
                return t.sum(b -> b.out == player && b.way != 5, b -> b.bowler + 1) - 1;
        }
    }

    int bowler(int innings, int player, int what) {
        Turn t = begun(innings);
        bounds(player >= 0 && player <= 10);
        arguments(what >= 0 && what <= 6);
        Predicate<Ball> his = b -> b.bowler == player;
        switch (what) {
            case 0:
                return t.sum(his.and(Ball::legal), b -> 1);
            case 1:
                return t.sum(his, Ball::conceded);
            case 2:
                return t.sum(his.and(b -> b.way >= 0 && b.way != 5), b -> 1);
            case 4:
            case 5:
                return t.sum(his.and(b -> b.kind == what - 3), b -> 1);
            default:
                int count = 0;
                for (int k = 0; k < t.bowlersOfOvers.size(); k++) {
                    boolean counts = what == 6 || t.ofOver(k, b -> true, Ball::conceded) == 0;
                    count += t.bowlersOfOvers.get(k) == player && counts ? 1 : 0;
                }
                return count;
        }
    }

    int partnership(int innings, int index, int what) {
        Turn t = begun(innings);
        element(index >= 0 && index < t.pairs.size());
        arguments(what >= 0 && what <= 7);
        int[] pair = t.pairs.get(index);
        Predicate<Ball> its = b -> b.pair == index;
        int[] numbers = {t.sum(its, Ball::team), t.sum(its.and(Ball::legal), b -> 1), pair[0], pair[1],
            t.sum(its.and(b -> b.striker == pair[0]), Ball::bat),
            t.sum(its.and(b -> b.striker == pair[1]), Ball::bat),
            t.sum(its, b -> b.team() - b.bat()), pair[2]};
        return numbers[what];
    }

    int fall(int innings, int index, int what) {
        Turn t = begun(innings);
        element(index >= 0 && index < t.wickets());
        arguments(what >= 0 && what <= 2);
        int[] numbers = new int[3];
        int seen = -1;
        for (Ball b : t.balls) {
            numbers[1] += b.team();
            numbers[2] += b.legal() ? 1 : 0;
            seen += b.way >= 0 ? 1 : 0;
            if (b.way >= 0 && seen == index) {
                numbers[0] = b.out;
                return numbers[what];
            }
        }
        throw new AssertionError();
    }

    int needed(boolean target) {
        state(game != null, 1);
        element(game.turns.size() == 2 * game.each);
        return target ? target() : Math.max(0, target() - game.turn().runs());
    }

    int result() {
        if (game == null || !game.over) {
            return 0;
        }
        int last = team(2 * game.each - 1);
        if (game.turns.size() < 2 * game.each) {
            return last + 1;
        }
        int short_ = target() - game.turn().runs();
        return short_ <= 0 ? last + 1 : short_ == 1 ? 3 : (1 - last) + 1;
    }

    double runRate(int innings) {
        Turn t = begun(innings);
        if (t.legal() == 0) {
            throw new ArithmeticException();
        }
        return (double) (t.runs() * 6) / (double) t.legal();
    }

    float strikeRate(int innings, int player) {
        int runs = batter(innings, player, 0);
        int balls = batter(innings, player, 1);
        if (balls == 0) {
            throw new ArithmeticException();
        }
        return (float) (runs * 100) / (float) balls;
    }

    int storeOvers(int row, int innings, boolean exact) {
        bounds(row == 0 || row == 1);
        Turn t = begun(innings);
        int count = t.bowlersOfOvers.size() + (t.overBegun() ? 1 : 0);
        float[] values = new float[count];
        for (int k = 0; k < count; k++) {
            int over = k;
            int runs = t.sum(b -> b.over <= over, Ball::team);
            values[k] = exact ? runs : (float) runs / (float) (k + 1);
        }
        rows[row] = values;
        exactRows[row] = exact;
        return count;
    }

    boolean copyOvers(int from, int count) {
        bounds(from == 0 || from == 1);
        element(rows[0] != null && rows[1] != null);
        if (exactRows[0] != exactRows[1]) {
            throw new UnsupportedOperationException();
        }
        arguments(count >= 0 && count <= rows[0].length && count <= rows[1].length);
        float[] before = rows[1 - from].clone();
        System.arraycopy(rows[from], 0, rows[1 - from], 0, count);
        return !Arrays.equals(before, rows[1 - from]);
    }

    float storedOvers(int row, int index) {
        bounds(row == 0 || row == 1);
        element(rows[row] != null && index >= 0 && index < rows[row].length);
        return rows[row][index];
    }

    int reason() {
        return why;
    }

    int commandCount() {
        return game == null ? 0 : game.commands;
    }

    int undo() {
        state(!past.isEmpty(), 7);
        game = past.remove(past.size() - 1);
        return past.size();
    }

    boolean isReplayed() {
        state(game != null, 1);
        return true;
    }

    int snapshot() {
        state(game != null, 1);
        kept = game.copy();
        return kept.commands;
    }

    int restore() {
        state(kept != null, 7);
        game = kept.copy();
        past.clear();
        return game.commands;
    }
}
