import java.lang.reflect.Array;
import java.lang.reflect.Field;
import java.lang.reflect.Modifier;
import java.util.ArrayList;
import java.util.Arrays;
import java.util.IdentityHashMap;
import java.util.List;
import java.util.Map;

/**
 * Promise 10 says how ahead() tells what it tells: by looking ahead only, without remembering what was told of any
 * state. Its answers alone cannot show that, so this test looks into the object.
 */
public final class AheadTest {
    private static final int[][] BEGINNINGS = {{4, 4}, {6, 1}, {0, 6}, {6, 6}, {3, 2}};
    private static int checks = 0;
    private static int wrong = 0;

    private static void check(String what, boolean holds) {
        checks++;
        if (!holds) {
            wrong++;
            if (wrong <= 40) {
                System.out.println("not so: " + what);
            }
        }
    }

    private static BorrowedHours game(int code, int[] hours) {
        BorrowedHours x = new BorrowedHours();
        x.set(BorrowedHours.END, 1 + code % 3);
        x.set(BorrowedHours.LOAN, code / 3 % 3);
        x.set(BorrowedHours.PAYS, code / 9 % 2);
        x.set(BorrowedHours.TIE, code / 18);
        x.begin(hours[0], hours[1]);
        return x;
    }

    private static List<Integer> aheads(BorrowedHours x) {
        List<Integer> told = new ArrayList<>();
        for (int player = 0; player < 2; player++) {
            for (int rounds = 0; rounds <= 3; rounds++) {
                told.add(x.ahead(player, rounds));
            }
        }
        return told;
    }

    private static List<Integer> forceds(BorrowedHours x) {
        List<Integer> told = new ArrayList<>();
        for (int player = 0; player < 2; player++) {
            for (int rounds = 0; rounds <= 3; rounds++) {
                told.add(x.forced(player, rounds));
            }
        }
        return told;
    }

    // ---- a look into an object

    /** All that an object holds: each number, and each object by the number under which it was met first. */
    private static String held(Object object) throws IllegalAccessException {
        StringBuilder told = new StringBuilder();
        tell(object, new IdentityHashMap<>(), told, new ArrayList<>());
        return told.toString();
    }

    private static List<int[]> numbersIn(Object object) throws IllegalAccessException {
        List<int[]> rows = new ArrayList<>();
        tell(object, new IdentityHashMap<>(), new StringBuilder(), rows);
        return rows;
    }

    private static void tell(Object object, Map<Object, Integer> met, StringBuilder told, List<int[]> rows) throws IllegalAccessException {
        Integer known = object == null ? Integer.valueOf(-1) : met.putIfAbsent(object, met.size());
        if (known != null) {
            told.append('#').append(known).append(' ');
        } else if (object.getClass().isArray()) {
            tellArray(object, met, told, rows);
        } else {
            told.append(object.getClass().getName()).append('(');
            for (Field field : object.getClass().getDeclaredFields()) {
                if (!Modifier.isStatic(field.getModifiers())) {
                    field.setAccessible(true);
                    tellPart(field.getType(), field.get(object), met, told, rows);
                }
            }
            told.append(')');
        }
    }

    private static void tellArray(Object array, Map<Object, Integer> met, StringBuilder told, List<int[]> rows) throws IllegalAccessException {
        if (array instanceof int[]) {
            rows.add((int[]) array);
        }
        told.append('[');
        for (int i = 0; i < Array.getLength(array); i++) {
            tellPart(array.getClass().getComponentType(), Array.get(array, i), met, told, rows);
        }
        told.append(']');
    }

    private static void tellPart(Class<?> type, Object part, Map<Object, Integer> met, StringBuilder told, List<int[]> rows) throws IllegalAccessException {
        if (type.isPrimitive()) {
            told.append(part).append(' ');
        } else {
            tell(part, met, told, rows);
        }
    }

    // ---- the checks

    private static void changesNothingInside() throws IllegalAccessException {
        for (int code = 0; code < 36; code++) {
            for (int[] hours : BEGINNINGS) {
                BorrowedHours x = game(code, hours);
                String before = held(x);
                aheads(x);
                check("ahead() leaves a new game as it is inside: settings " + code, held(x).equals(before));
                forceds(x);
                x.leastHours(0);
                before = held(x);
                aheads(x);
                check("ahead() leaves it as it is inside, also behind forced(): settings " + code, held(x).equals(before));
            }
        }
    }

    /** What forced() keeps is spoilt: all numbers in arrays, which hold nothing of a game. */
    private static void looksAtNothingKept() throws IllegalAccessException {
        int misled = 0;
        for (int code = 0; code < 36; code++) {
            for (int[] hours : BEGINNINGS) {
                for (int spoilt = 0; spoilt < 10; spoilt += 9) {
                    BorrowedHours x = game(code, hours);
                    List<Integer> due = forceds(x);
                    for (int[] row : numbersIn(x)) {
                        Arrays.fill(row, spoilt);
                    }
                    misled += forceds(x).equals(due) ? 0 : 1;
                    check("ahead() tells the same whatever is kept: settings " + code, aheads(x).equals(due));
                }
            }
        }
        check("forced() is misled by what this test spoils, so that it tells something", misled > 0);
    }

    public static void main(String[] args) throws IllegalAccessException {
        changesNothingInside();
        looksAtNothingKept();
        System.out.println(wrong == 0 ? checks + " checks hold" : wrong + " checks do not hold");
        if (wrong != 0) {
            System.exit(1);
        }
    }
}
