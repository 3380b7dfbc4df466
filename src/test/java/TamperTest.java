import java.lang.reflect.Array;
import java.lang.reflect.Field;
import java.lang.reflect.Modifier;

/**
 * Promise 30: a replay always comes to the same match, so that only a number that was changed behind the
 * scorer's back can show that isReplayed really compares.
 */
final class TamperTest {
    private final WicketScorer x = new WicketScorer();
    private int tampered = 0;

    private TamperTest() {
    }

    static void run() {
        try {
            new TamperTest().tamperWithAll();
        } catch (ReflectiveOperationException hidden) {
            Check.due("tampering", "possible", () -> hidden);
        }
    }

    private void tamperWithAll() throws ReflectiveOperationException {
        x.begin(9, 2, 1);
        Scorers.play(x, "@a4W1w2n3b1.");
        x.declare();
        x.choose(7);
        Scorers.play(x, "@c2l1CR..@dw1");
        Object match = get(x, "match");
        tamperWithNumbers(match, "match");
        Object all = get(match, "all");
        for (int innings = 0; innings < 2; innings++) {
            tamperWithInnings(Array.get(all, innings), "innings " + innings);
        }
        Check.due("numbers that were changed", true, () -> tampered > 60);
        Check.due("all is as before", true, x::isReplayed);
    }

    private void tamperWithInnings(Object innings, String name) throws ReflectiveOperationException {
        tamperWithNumbers(innings, name);
        Object overs = get(innings, "overs");
        tamperWithNumbers(overs, name + " overs");
        int[] runs = (int[]) get(overs, "runsAtEnd");
        for (int over = 0; over < (int) get(overs, "complete"); over++) {
            tamperWithElement(runs, over, name + " runs of over " + over);
        }
        for (String table : new String[] {"totals", "batters", "bowlers", "partnerships", "falls"}) {
            Object rows = get(innings, table);
            tamperWithNumbers(rows, name + " " + table);
            int used = (int) get(rows, "rows") * (int) get(rows, "columns");
            tamperWithElement((int[]) get(rows, "cells"), 0, name + " first of " + table);
            tamperWithElement((int[]) get(rows, "cells"), used - 1, name + " last of " + table);
        }
    }

    private void tamperWithElement(int[] numbers, int index, String name) {
        numbers[index]++;
        mustDiffer(name);
        numbers[index]--;
    }

    /** Changes each int and boolean of an object in turn. */
    private void tamperWithNumbers(Object owner, String name) throws ReflectiveOperationException {
        for (Field field : owner.getClass().getDeclaredFields()) {
            field.setAccessible(true);
            if (Modifier.isFinal(field.getModifiers())) {
                continue;
            }
            Object before = field.get(owner);
            if (field.getType() == int.class) {
                field.setInt(owner, (int) before - 1);
            } else if (field.getType() == boolean.class) {
                field.setBoolean(owner, !(boolean) before);
            } else {
                continue;
            }
            mustDiffer(name + " " + field.getName());
            field.set(owner, before);
        }
    }

    private void mustDiffer(String name) {
        tampered++;
        Check.due("replayed with another " + name, false, x::isReplayed);
    }

    private static Object get(Object owner, String name) throws ReflectiveOperationException {
        Field field = owner.getClass().getDeclaredField(name);
        field.setAccessible(true);
        return field.get(owner);
    }
}
