import java.lang.reflect.InvocationTargetException;
import java.lang.reflect.Method;
import java.lang.reflect.Modifier;
import java.util.Arrays;
import java.util.Comparator;

/** Rule 7 of LANGUAGE.md: no call throws, for any arguments in any state, nor behind the 512th. */
public final class NeverThrowsTest {
    private static final int[] ODD = {Integer.MIN_VALUE, -1, 0, 1, 2, 7, 8, 511, Integer.MAX_VALUE};
    private static int wrong = 0;
    private static int calls = 0;

    public static void main(String[] args) throws IllegalAccessException {
        Method[] face = PulseBoard.class.getDeclaredMethods();
        Arrays.sort(face, Comparator.comparing(Method::getName));
        for (Boards board : Boards.values()) {
            // The worn one is changed by all calls on their way, far behind the 512th.
            PulseBoard worn = board.make();
            for (Method method : face) {
                if (!Modifier.isPublic(method.getModifiers())) continue;
                callAll(board.make(), method, board);
                callAll(worn, method, board);
            }
        }
        System.out.println(wrong == 0 ? calls + " calls threw nothing" : wrong + " calls threw");
        if (wrong != 0) System.exit(1);
    }

    private static void callAll(PulseBoard x, Method method, Boards board) throws IllegalAccessException {
        int count = method.getParameterCount();
        int all = 1;
        for (int n = 0; n < count; n++) all *= ODD.length;
        for (int n = 0; n < all; n++) {
            Object[] told = new Object[count];
            int rest = n;
            for (int m = 0; m < count; m++) {
                told[m] = ODD[rest % ODD.length];
                rest /= ODD.length;
            }
            call(x, method, told, board);
        }
    }

    private static void call(PulseBoard x, Method method, Object[] told, Boards board) throws IllegalAccessException {
        calls++;
        try {
            method.invoke(x, told);
        } catch (InvocationTargetException thrown) {
            wrong++;
            System.out.println(board + " " + method.getName() + Arrays.toString(told) + " threw " + thrown.getCause());
        }
    }
}
