import java.util.Arrays;

/** Numbers that are too small or too large for anything in the file, as far out as an int goes. */
final class Far {
    private static final int[] OUT = {
        Integer.MIN_VALUE, Integer.MIN_VALUE + 1, -(1 << 30), -(1 << 29), -65536, -256,
        65536, 1 << 28, 1 << 29, (1 << 29) + 1, 1 << 30, (1 << 30) + 1, Integer.MAX_VALUE - 1, Integer.MAX_VALUE
    };

    private Far() { }

    /** These, and those far out behind them. */
    static int[] out(int... nearer) {
        int[] all = Arrays.copyOf(nearer, nearer.length + OUT.length);
        System.arraycopy(OUT, 0, all, nearer.length, OUT.length);
        return all;
    }
}
