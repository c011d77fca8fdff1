import java.util.Arrays;

/** sort: what a CHARACTER is; each of them is asked for. */
final class Promise8Test {
    public static void main(String[] args) {
        WordChain x = new WordChain();
        int[] wants = wants();
        for (int c = 0; c <= 0x10FFFF; c++) {
            if (c % 400 == 0) {
                x = new WordChain();
            }
            Checks.due("sort(" + c + ")", x.sort(c), wants[c]);
        }
        WordChain last = x;
        for (int c : new int[] {-1, 1114112, Integer.MIN_VALUE, Integer.MAX_VALUE}) {
            Checks.refused("sort(" + c + ")", IllegalArgumentException.class, () -> last.sort(c));
        }
        Checks.finish();
    }

    private static int[] wants() {
        int[] wants = new int[0x110000];
        put(wants, 'A', 'Z', 1);
        put(wants, 'a', 'z', 1);
        put(wants, 0xC0, 0x24F, 1);
        put(wants, 0xD7, 0xD7, 0);
        put(wants, 0xF7, 0xF7, 0);
        put(wants, 0x391, 0x3FF, 1);
        put(wants, 0x400, 0x4FF, 1);
        put(wants, '0', '9', 2);
        put(wants, '_', '_', 3);
        put(wants, 0xB7, 0xB7, 4);
        put(wants, ',', ',', 5);
        put(wants, ';', ';', 5);
        put(wants, '\'', '\'', 6);
        put(wants, '.', '.', 6);
        put(wants, 0x2019, 0x2019, 6);
        put(wants, 0x4E00, 0x9FFF, 7);
        return wants;
    }

    private static void put(int[] wants, int from, int to, int sort) {
        Arrays.fill(wants, from, to + 1, sort);
    }
}
