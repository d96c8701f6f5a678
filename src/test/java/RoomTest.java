import java.lang.management.ManagementFactory;
import java.lang.reflect.Array;
import java.lang.reflect.Field;
import java.lang.reflect.Modifier;
import java.util.IdentityHashMap;
import java.util.Map;

/** All calls of one run live in one room: 600,000 objects and arrays, 7.3 million fields and elements. */
public final class RoomTest {
    private static final long MOST_OBJECTS = 600000;
    private static final long MOST_PARTS = 7300000;
    private static final com.sun.management.ThreadMXBean THREADS =
        (com.sun.management.ThreadMXBean) ManagementFactory.getThreadMXBean();

    private final Map<Object, Boolean> seen = new IdentityHashMap<>();
    private long parts;

    private void weigh(Object o) throws IllegalAccessException {
        if (o == null || seen.put(o, true) != null) {
            return;
        }
        if (o.getClass().isArray()) {
            int length = Array.getLength(o);
            parts += length;
            for (int i = 0; i < length && !o.getClass().getComponentType().isPrimitive(); i++) {
                weigh(Array.get(o, i));
            }
            return;
        }
        for (Field f : o.getClass().getDeclaredFields()) {
            if (!Modifier.isStatic(f.getModifiers())) {
                parts++;
                f.setAccessible(true);
                if (!f.getType().isPrimitive()) {
                    weigh(f.get(o));
                }
            }
        }
    }

    /** So many such cells must have room. */
    private static void room(String what, MillCell cell, int many) throws IllegalAccessException {
        RoomTest scale = new RoomTest();
        scale.weigh(cell);
        System.out.println(what + ": " + scale.seen.size() + " objects, " + scale.parts + " fields and elements");
        Cells.due(many + " of " + what + ": objects", scale.seen.size() * (long) many <= MOST_OBJECTS, true);
        Cells.due(many + " of " + what + ": parts", scale.parts * many <= MOST_PARTS, true);
    }

    private static MillCell read(String text) {
        MillCell cell = new MillCell();
        Cells.tape(cell, text);
        cell.read();
        return cell;
    }

    private static void busy(String what, MillCell cell, int o, int runs, long most) {
        cell.run(o, 10000);
        long before = THREADS.getThreadAllocatedBytes(Thread.currentThread().getId());
        for (int n = 0; n < runs; n++) {
            cell.run(o, 10000);
        }
        long made = THREADS.getThreadAllocatedBytes(Thread.currentThread().getId()) - before;
        System.out.println(what + ": " + made + " bytes");
        Cells.due(what + " makes at most " + most + " bytes", made <= most, true);
    }

    public static void main(String[] args) throws Exception {
        room("a new object", new MillCell(), 512);
        room("a cell that is read", read(""), 256);
        room("a cell that is fed and read", read("O 1"), 170);
        // A run makes nothing but rows, RACKS and TOOLS, and of these no more than may be made since the beginning.
        busy("500 runs", read("O 1\n#1=0\nWHILE #1 LT 2000\nTRY\n#1=#1+1\nG91 X[1-2*MOD[#1,2]]\nPRINT SQRT[NXT[#1]]\nCALL 2 A #1\nALARM 3\n"
            + "ON ANY\nLAST\nGUARD\nEND\nEND\nEND\nO 2\n#100=ULP[#1]"), 1, 500, 10000);
        busy("rows beyond the most", read("O 1\nFIT 7,60000"), 1, 500, 10000);
        MillCell full = read("O 1\nFIT 7,94000\nRACK 0,0,5000\n#1=0\nWHILE 1\nLOAD 0,#1,0\n#1=#1+1\nEND");
        full.run(1, 10000);
        full.run(1, 10000);
        room("a full cell", full, 1);
        Cells.end();
    }
}
