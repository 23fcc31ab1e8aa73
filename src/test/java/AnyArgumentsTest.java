import java.util.ArrayList;
import java.util.Collections;
import java.util.List;
import java.util.Random;

/** Every call with arguments from end to end of what an int can be: it answers, and as PlainHouse does. */
public final class AnyArgumentsTest {
    private static final int[] ENDS = {
        Integer.MIN_VALUE, -1, 0, 1, 3, 4, 11, 60, 601, Integer.MAX_VALUE - 1, Integer.MAX_VALUE};
    private static final int MOST_OF_A_CALL = 6000;
    private static final int MOST_OF_AN_OBJECT = 450;

    private final CordHouse house = new CordHouse();
    private final PlainHouse plain = new PlainHouse();
    private int asked = 0;

    private void ask(String call, int... a) {
        asked++;
        StringBuilder text = new StringBuilder(call);
        for (int v : a) {
            text.append(' ').append(v);
        }
        Due.due(text.toString(), Calls.onHouse(house, call, a), Calls.onPlain(plain, call, a));
    }

    /** Some CORDS with KNOTS, SUMS, a tear, GROUPINGS; how many tells how much of it. */
    private void begin(int many) {
        for (int c = 0; c < many; c++) {
            ask("cord", 0, c % 12, c % 24, 600);
            ask("knot", 0, c, 60, 0, 0);
            ask("knot", 0, c, 300, 1, 2 + c % 8);
            ask("copy", 0, 3);
        }
        if (many > 3) {
            ask("hang", 0, 1, 3, 600);
            ask("tear", 0, 1, 300);
            for (int s = 0; s < 4; s++) {
                ask("sum", 0, s);
                ask("part", 0, s + 1);
                ask("part", 0, 0);
            }
            ask("settle", 0);
            ask("cure", 0);
            ask("found", 0);
        }
    }

    /** All rows of n ends, one behind the other. */
    private static int[] argumentsOf(int row, int n) {
        int[] a = new int[n];
        int rest = row;
        for (int i = 0; i < n; i++) {
            a[i] = ENDS[rest % ENDS.length];
            rest /= ENDS.length;
        }
        return a;
    }

    private static List<Object[]> allCalls(Random random) {
        List<Object[]> all = new ArrayList<>();
        for (int i = 0; i < Calls.NAMES.length; i++) {
            int rows = (int) Math.round(Math.pow(ENDS.length, Calls.TAKES[i]));
            boolean each = rows <= MOST_OF_A_CALL;
            for (int row = 0; row < Math.min(rows, MOST_OF_A_CALL); row++) {
                all.add(new Object[] {Calls.NAMES[i], argumentsOf(each ? row : random.nextInt(rows), Calls.TAKES[i])});
            }
        }
        Collections.shuffle(all, random);
        return all;
    }

    public static void main(String[] args) {
        int[] sizes = {0, 1, 4, 13, 60};
        int objects = 0;
        AnyArgumentsTest run = new AnyArgumentsTest();
        for (Object[] call : allCalls(new Random(1))) {
            if (run.asked >= MOST_OF_AN_OBJECT) {
                run = new AnyArgumentsTest();
                run.begin(sizes[objects % sizes.length]);
                objects++;
            }
            run.ask((String) call[0], (int[]) call[1]);
        }
        Due.end();
    }
}
