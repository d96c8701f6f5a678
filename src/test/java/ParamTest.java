/** Promise 5: a common PARAMETER becomes the REAL with these bits. */
public final class ParamTest {
    public static void main(String[] args) {
        MillCell cell = new MillCell();
        Cells.due("no program", cell.param(100, 5), false);
        Cells.tape(cell, "O 1\nPRINT #100\nPRINT #149\nPRINT VAC[#101]\n#102=#100+1\nO 2\nPRINT 0");
        Cells.due("param on the tape alone", cell.param(100, 5), false);
        Cells.due("read()", cell.read(), 0);
        Cells.due("param(99)", cell.param(99, 5), false);
        Cells.due("param(150)", cell.param(150, 5), false);
        Cells.due("param(1)", cell.param(1, 5), false);
        Cells.due("param(-100)", cell.param(-100, 5), false);
        Cells.due("param(least)", cell.param(Integer.MIN_VALUE, 5), false);
        Cells.due("param(100)", cell.param(100, Cells.bits(-2.5)), true);
        Cells.due("param(149)", cell.param(149, 1), true);
        Cells.dueReal("real(0, 100)", cell.real(0, 100), -2.5);
        Cells.due("real(0, 149)", cell.real(0, 149), 1);
        cell.run(1, 10);
        Cells.dueReal("real(4, 0)", cell.real(4, 0), -2.5);
        Cells.due("real(4, 1)", cell.real(4, 1), 1);
        Cells.dueReal("real(4, 2)", cell.real(4, 2), 1);
        Cells.dueReal("real(0, 102)", cell.real(0, 102), -1.5);
        // Kept between runs.
        cell.run(2, 10);
        Cells.dueReal("real(0, 100)", cell.real(0, 100), -2.5);
        bitsStay();
        Cells.end();
    }

    private static void bitsStay() {
        MillCell cell = Cells.of("O 1");
        long[] plain = {0, Long.MIN_VALUE, 1, Long.MIN_VALUE + 1, 0x000fffffffffffffL, 0x0010000000000000L,
            0x7fefffffffffffffL, 0xffefffffffffffffL, 0x7ff0000000000000L, 0xfff0000000000000L, 0x3ff0000000000000L,
            0x3ff0000000000001L, 0x3fefffffffffffffL, 0x4340000000000001L, 0x0000000000000fffL, 0x123456789abcdef0L};
        for (long x : plain) {
            Cells.due("param(120, " + x + ")", cell.param(120, x), true);
            Cells.due("real(0, 120)", cell.real(0, 120), x);
        }
        for (int e = 0; e < 2047; e++) {
            cell = e % 100 == 0 ? Cells.of("O 1") : cell;
            long x = (long) e << 52 | 0x000a5a5a5a5a5a5aL >>> e % 52;
            cell.param(121, x);
            Cells.due("real(0, 121)", cell.real(0, 121), x);
        }
        long[] vacant = {0x7ff8000000000000L, 0x7ff0000000000001L, 0xfff8000000000000L, -1L, 0x7fffffffffffffffL};
        cell = Cells.of("O 1");
        for (long x : vacant) {
            Cells.due("param(120, " + x + ")", cell.param(120, x), true);
            Cells.due("real(0, 120)", cell.real(0, 120), Cells.VACANT);
        }
    }
}
