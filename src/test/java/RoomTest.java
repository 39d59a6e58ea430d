import com.sun.management.ThreadMXBean;
import java.lang.management.ManagementFactory;

/**
 * What a town takes of the one room that all calls of a run live in: rows are made once, so that the dearest runs take
 * next to nothing when they are made again, as often as an object is used.
 */
public final class RoomTest {
    // All fields and elements of the room, if each took four bytes, are 29 million bytes.
    private static final long MOST_AT_FIRST = 4_000_000;
    private static final long MOST_LATER = 200_000;
    private static final ThreadMXBean THREADS = (ThreadMXBean) ManagementFactory.getThreadMXBean();

    private RoomTest() {
    }

    public static void main(String[] args) {
        String[][] dear = {
            {"j 0 0"}, {"N 2 3", "j 0 0"}, {"N 2 2", "! 2 2 0", "! 2 2 1", "j 0 1"}, {"B 2 1", "j 0 0"}, {"p 1", "j 0 0"},
            {"N 2 3", "G 3 2 11 1", "E 4 3 5", "E 4 3 5", "Q 3", "j 0 1"}, {"N 2 3", "C 3 2 12 1", "j 0 1"},
            {"N 2 3", "D 3 2 10", "P 3 3 3", "j 0 2"}, {"N 2 3", "D 3 2 10", "P 3 3 3", "I 4 3 1", "j 0 2"},
            {"N 2 3", "D 3 2 10", "D 4 2 11", "P 3 3 4", "P 4 4 3", "j 0 3"}, {"d 2 -2", "d 2 -3", "j 0 0"},
            {"N 2 3", "D 3 2 10", "D 4 2 11", "P 4 3 4", "P 5 4 4", "M 5 5 3", "j 0 3"}, {"S 2 2 0", "s 1 3 1", "j 0 0"},
            {"N 2 3", "D 3 2 10", "D 4 2 11", "D 5 2 12", "P 5 4 5", "P 5 5 3", "P 5 4 5", "M 1 5 4", "M 5 5 3", "j 0 4"},
        };
        for (String[] steps : dear) {
            long before = THREADS.getCurrentThreadAllocatedBytes();
            Reifytown town = town();
            int body = Checks.body(town, steps);
            town.addRegion(body, 0, steps.length - 1, 'f', 0, 23);
            int jumps = Checks.body(town, "z 5 3", "r 1", "r 1", "x 1", "e", "j 0 0", "e");
            town.addRegion(jumps, 0, 1, 'f', 0, 4);
            town.addRegion(jumps, 3, 3, 'c', -1, 5);
            int drops = Checks.body(town, "j 0 6", "e", "j 0 6", "e", "x 1", "j 0 0", "e");
            town.addRegion(drops, 0, 0, 'f', 0, 2);
            town.addRegion(drops, 2, 2, 'f', 0, 4);
            town.addRegion(drops, 4, 4, 'c', 3, 5);
            perform(town, body, jumps, drops);
            long first = THREADS.getCurrentThreadAllocatedBytes();
            for (int i = 0; i < 100; i++) {
                perform(town, body, jumps, drops);
            }
            long later = THREADS.getCurrentThreadAllocatedBytes();
            String what = "room of " + String.join(", ", steps);
            Checks.same(what + " at first, " + (first - before), first - before < MOST_AT_FIRST, true);
            Checks.same(what + " later, " + (later - first), later - first < MOST_LATER, true);
        }
        Checks.close("RoomTest");
    }

    private static void perform(Reifytown town, int body, int jumps, int drops) {
        town.run(body, 3);
        town.run(drops, 3);
        town.runWritten(jumps, 3);
        town.isSame(body, 3);
    }

    /** Kinds 0 a structure, 1 a class, of the types 2 and 3; methods of the class return, give and throw. */
    private static Reifytown town() {
        Reifytown town = Towns.of("s=-", "c", "c=-");
        town.type(0, 0);
        town.type(1, -1);
        town.addMethod(1, 0, 'v', town.addBody());
        int gives = Checks.body(town, "y 1", "r 1", "e");
        town.addRegion(gives, 0, 1, 'f', 0, 2);
        town.addMethod(1, 1, 'v', gives);
        int throwing = Checks.body(town, "x 1", "r 5", "e");
        town.addRegion(throwing, 0, 0, 'f', 0, 2);
        town.addRegion(throwing, 0, 0, 'c', -1, 1);
        town.addMethod(1, 2, 'v', throwing);
        return town;
    }
}
