/** Promise 4: the tape's text becomes the programs; all is as at first, but what was made and met. */
public final class ReadTest {
    private static final String[] BUSY = {"O 1", "#100=4", "FIT 5,8", "FIT 0,0", "RACK 2,3,3", "RACK 0,0,0", "LOAD 2,1,4", "TAKE 2,1",
        "LOAD 2,0,3",
        "G1 F 100 S 7 M 3 X 5", "M 8", "G 92 X 1 Y 2 Z 3", "G 55", "G 91", "TRY", "ALARM 1", "ON ANY", "END", "PRINT 8",
        "#5=6", "ALARM 9"};

    public static void main(String[] args) {
        anew();
        anewWithFault();
        numbers();
        Cells.end();
    }

    private static MillCell busy() {
        MillCell cell = Cells.of(BUSY);
        Cells.due("run(1, 99)", cell.run(1, 99), 1);
        Cells.due("told(0)", cell.told(0), 10);
        Cells.due("count(3)", cell.count(3), 1);
        Cells.due("count(4)", cell.count(4), 0);
        Cells.due("count(5)", cell.count(5), 1);
        Cells.due("count(6)", cell.count(6), 1);
        Cells.due("count(7)", cell.count(7), 1);
        Cells.due("count(8)", cell.count(8), 4);
        Cells.due("count(11)", cell.count(11), 15);
        Cells.due("count(12)", cell.count(12), 2);
        Cells.due("count(13)", cell.count(13), 2);
        Cells.due("bank(0)", cell.bank(0), 0);
        Cells.due("pocket(0, 0, 4)", cell.pocket(0, 0, 4), 0);
        return cell;
    }

    private static void gone(MillCell cell, int absolute) {
        for (int what = 0; what <= 7; what++) {
            Cells.due("told(" + what + ")", cell.told(what), 0);
        }
        for (int what = 3; what <= 7; what++) {
            Cells.due("count(" + what + ")", cell.count(what), what == 4 ? absolute : 0);
        }
        Cells.due("count(9)", cell.count(9), 0);
        Cells.due("count(11)", cell.count(11), 15);
        Cells.due("count(12)", cell.count(12), 2);
        Cells.due("count(13)", cell.count(13), 2);
        Cells.due("real(0, 100)", cell.real(0, 100), Cells.VACANT);
        Cells.due("real(4, 0)", cell.real(4, 0), Cells.VACANT);
        Cells.due("real(5, 0)", cell.real(5, 0), Cells.VACANT);
        Cells.due("real(6, 0)", cell.real(6, 0), Cells.VACANT);
        Cells.due("real(7, 5)", cell.real(7, 5), Cells.VACANT);
        Cells.due("segment(0, 0)", cell.segment(0, 0), Cells.VACANT);
        Cells.due("bank(5)", cell.bank(5), -1);
        Cells.due("bank(0)", cell.bank(0), -1);
        Cells.due("pocket(0, 0, 4)", cell.pocket(0, 0, 4), -1);
        Cells.due("cell(5, 0)", cell.cell(5, 0), 0);
        Cells.due("pocket(2, 0, 4)", cell.pocket(2, 0, 4), -1);
        Cells.due("pocket(-1, 0, 0)", cell.pocket(-1, 0, 0), -1);
    }

    private static void anew() {
        MillCell cell = busy();
        Cells.tape(cell, "O 2\nRACK 0,0,1\nLOAD 0,0,5");
        Cells.due("read()", cell.read(), 0);
        gone(cell, 1);
        Cells.due("count(8)", cell.count(8), -1);
        Cells.due("O 1 is gone", Cells.thrown(cell, 1, 1), Cells.ARGUMENT);
        for (int i = 0; i < 3; i++) {
            Cells.dueReal("real(1, " + i + ")", cell.real(1, i), 0);
            Cells.dueReal("real(2, " + i + ")", cell.real(2, i), 0);
            Cells.dueReal("real(2, " + (i + 3) + ")", cell.real(2, i + 3), 0);
        }
        Cells.dueReal("real(3, 0)", cell.real(3, 0), 0);
        Cells.dueReal("real(3, 1)", cell.real(3, 1), 0);
        Cells.due("run(2, 9)", cell.run(2, 9), 0);
        Cells.due("the third TOOL", cell.pocket(0, 0, 1), 3);
        Cells.due("count(11)", cell.count(11), 17);
    }

    private static void anewWithFault() {
        MillCell cell = busy();
        Cells.tape(cell, "O 2\nPRINT");
        Cells.due("read()", cell.read(), 2 + 16 * 2);
        gone(cell, 0);
        Cells.due("count(8)", cell.count(8), 0);
        Cells.due("run(1, 1)", Cells.thrown(cell, 1, 1), Cells.STATE);
        Cells.due("real(1, 0)", cell.real(1, 0), Cells.VACANT);
        Cells.due("param(100, 0)", cell.param(100, 0), false);
        Cells.due("read() of nothing", cell.read(), 2 + 16);
        Cells.tape(cell, "O 2\nPRINT 5");
        Cells.due("read()", cell.read(), 0);
        Cells.due("run(2, 1)", cell.run(2, 1), 0);
        Cells.dueReal("real(4, 0)", cell.real(4, 0), 5);
    }

    private static void numbers() {
        Cells.prints(Cells.of("", "(so)  ", " O 01 (the first)", "PRINT 1.5", "PRINT 0.1", "PRINT 123456.789", "PRINT 007",
            "PRINT 999999999", "PRINT 0.00000001", "PRINT 12345678.9", "PRINT 2+3*4-6/2", "PRINT [2+3]*4", "PRINT 8/4/2",
            "PRINT 2-3-4", "PRINT 1LT2", "PRINT 1+1 EQ 2", "PRINT -[1]*-2", "PRINT 7(seven)(7)", "PRINT--3"),
            1.5, 0.1, 123456.789, 7, 999999999, 1e-8, 12345678.9, 11, 20, 1, -5, 1, 1, 2, 7, 3);
    }
}
