import com.sun.management.ThreadMXBean;
import java.lang.management.ManagementFactory;

/** All memory is the class's own rows, used again: calls make nothing. */
final class RoomTest {
    public static void main(String[] args) {
        Checks.about("All memory is the class's own rows, used again");
        ThreadMXBean threads = (ThreadMXBean) ManagementFactory.getThreadMXBean();
        long self = Thread.currentThread().getId();
        useAll(new WordChain());
        WordChain x = new WordChain();
        long before = threads.getThreadAllocatedBytes(self);
        int tokens = useAll(x);
        long made = threads.getThreadAllocatedBytes(self) - before;
        Checks.due("TOKENS", tokens, 600);
        Checks.due("bytes made are few: " + made, made < 2000, true);
        Checks.finish();
    }

    /** Ten times "hopping the relates " in each of thirty texts: less than 512 calls. */
    private static int useAll(WordChain x) {
        int tokens = 0;
        for (int text = 0; text < 30; text++) {
            for (int k = 0; k < 10; k++) {
                x.feed(0x686F7070, 0x696E6720, 0x74686520, 0x72656C61, 0x74657320);
            }
            x.end(19);
            tokens += x.cut();
            x.token(19, 0);
            x.character(19, 0);
            x.first(19);
            x.count(4);
        }
        return tokens;
    }
}
