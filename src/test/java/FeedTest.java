/** Promise 2: twenty bytes a call, the highest of a first, 5,000 at most. */
public final class FeedTest {
    public static void main(String[] args) {
        order();
        full();
        Cells.end();
    }

    private static void order() {
        MillCell cell = new MillCell();
        // "O 7\nPRINT 1\nPRINT 22" is twenty bytes.
        Cells.due("feed", cell.feed(0x4f20370a, 0x5052494e, 0x5420310a, 0x5052494e, 0x54203232), 20);
        Cells.due("read()", cell.read(), 0);
        Cells.due("count(1)", cell.count(1), 3);
        Cells.due("run(7, 9)", cell.run(7, 9), 0);
        Cells.dueReal("real(4, 0)", cell.real(4, 0), 1);
        Cells.dueReal("real(4, 1)", cell.real(4, 1), 22);
        // read() uses the tape up, and bytes above 127 are kept as such: no TOKENS.
        Cells.due("feed", cell.feed(0x4f20370a, 0x20202020, 0x2020ff20, 0x20202020, 0x20202020), 20);
        Cells.due("read()", cell.read(), 1 + 16 * 2);
        Cells.due("feed", cell.feed(-1, -1, -1, -1, -1), 20);
        Cells.due("feed", cell.feed(0, 0, 0, 0, 0), 40);
        Cells.due("back(0)", cell.back(0), 40);
        Cells.due("read()", cell.read(), 1 + 16);
    }

    private static void full() {
        MillCell cell = new MillCell();
        int blanks = 0x20202020;
        for (int n = 1; n <= 249; n++) {
            Cells.due("feed " + n, cell.feed(blanks, blanks, blanks, blanks, blanks), 20 * n);
        }
        Cells.due("back(1)", cell.back(1), 4979);
        Cells.due("feed to 4999", cell.feed(blanks, blanks, blanks, blanks, blanks), 4999);
        Cells.due("feed beyond", cell.feed(0x0a0a0a0a, 0, 0, 0, 0), -1);
        Cells.due("back(19)", cell.back(19), 4980);
        Cells.due("feed to 5000", cell.feed(blanks, blanks, blanks, blanks, blanks), 5000);
        Cells.due("feed beyond", cell.feed(0x0a0a0a0a, 0, 0, 0, 0), -1);
        Cells.due("back(0)", cell.back(0), 5000);
        // Nothing of the 10s has come: the end is on LINE 1.
        Cells.due("read()", cell.read(), 2 + 16);
        Cells.due("feed anew", cell.feed(blanks, blanks, blanks, blanks, blanks), 20);
    }
}
