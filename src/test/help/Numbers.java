import java.util.TreeSet;

/** Numbers that lie outside a range. */
final class Numbers {
    private Numbers() { }

    /**
     * The neighbours of the range and the ends of int, and the numbers that would fall
     * into the range if a program kept only some of their bits or dropped their sign.
     */
    static int[] outside(int low, int high) {
        TreeSet<Integer> found = new TreeSet<>();
        for (int n : new int[] {low, (low + high) / 2, high}) {
            found.add(-n);
            found.add(~n);
            for (int bit = 0; bit < 32; bit++) {
                found.add(n + (1 << bit));
                found.add(n - (1 << bit));
            }
        }
        found.add(low - 1);
        found.add(high + 1);
        found.add(Integer.MIN_VALUE);
        found.add(Integer.MAX_VALUE);
        return found.stream().mapToInt(Integer::intValue).filter(n -> n < low || n > high).toArray();
    }
}
