/** Promise 4: FAULTS OF THE TEXT: kind + 16 * LINE. */
public final class FaultTest {
    private static void due(int kind, int line, String text) {
        Cells.due("read() of " + text, Cells.fault(text), kind + 16 * line);
    }

    private static void fine(String text) {
        Cells.due("read() of " + text, Cells.fault(text), 0);
    }

    public static void main(String[] args) {
        tokens();
        places();
        blocks();
        depths();
        lengths();
        Cells.end();
    }

    private static void tokens() {
        due(1, 2, "O 1\nPRINT $");
        due(1, 2, "O 1\nPRINT 1234567890");
        due(1, 2, "O 1\nPRINT 12345.67891");
        fine("O 1\nPRINT 12345.6789");
        due(1, 2, "O 1\nPRINT 1.");
        due(1, 2, "O 1\nPRINT 1..5");
        due(1, 2, "O 1\nPRINT .5");
        due(1, 2, "O 1\nPRINT 1.2.3");
        due(1, 2, "O 1\nPRINT 1 (open\n)");
        due(1, 2, "O 1\nPRINT 1 )");
        due(1, 1, "(");
        due(1, 1, "o 1");
        due(1, 1, "O 1\r\n");
        due(1, 1, "\tO 1");
        due(1, 3, "\n\nO 1234567890");
        // The first one by the TOKENS.
        due(2, 2, "O 1\nPRINT 1 2 $");
        due(2, 2, "O 1\n1.");
        due(1, 2, "O 1\nRETURN $");
        due(1, 2, "O 1\nPRINT (");
        due(2, 2, "O 1\nEND $");
        fine("O 1\nPRINT 1 ( (two) \n( 3 ) ( 4 )");
    }

    private static void places() {
        due(2, 1, "");
        due(2, 3, "\n\n");
        due(2, 2, "\nPRINT 1");
        due(2, 1, "PRINT 1\nO 1");
        due(2, 1, "X 1\nO 1");
        due(2, 1, "#1=1\nO 1");
        due(2, 1, "1");
        due(2, 1, "O");
        due(2, 1, "O\n1");
        due(2, 1, "O A");
        due(2, 1, "O 100");
        fine("O 99");
        due(2, 1, "O 1.0");
        due(2, 1, "O -1");
        due(2, 1, "O 1 2");
        due(2, 3, "O 1\nO 2\nO 1");
        due(2, 2, "O 1\nO 01");
        due(2, 2, "O 1\nPRINT\nPRINT 1");
        due(2, 2, "O 1\nPRINT 1 +");
        due(2, 2, "O 1\nPRINT 1 EQ 2 EQ 3");
        due(2, 2, "O 1\nPRINT [1");
        due(2, 2, "O 1\nPRINT 1]");
        due(2, 2, "O 1\nPRINT MIN[1]");
        due(2, 2, "O 1\nPRINT ABS[1,2]");
        due(2, 2, "O 1\nPRINT MID[1,2]");
        due(2, 2, "O 1\nPRINT ABS 1");
        due(2, 2, "O 1\nPRINT ABSE[1]");
        due(2, 2, "O 1\nPRINT X");
        due(2, 2, "O 1\nPRINTVACANT");
        due(2, 2, "O 1\nFIT 1");
        due(2, 2, "O 1\nFIT 1,2,3");
        due(2, 2, "O 1\nMOVE 1,2,3,4");
        due(2, 2, "O 1\nRETURN 1");
        due(2, 2, "O 1\n#1");
        due(2, 2, "O 1\n#1 2");
        due(2, 2, "O 1\n#1+1=2");
        due(2, 2, "O 1\n= 1");
        due(2, 2, "O 1\nCALL");
        due(2, 2, "O 1\nCALL 100");
        due(2, 2, "O 1\nCALL 1.0");
        due(2, 2, "O 1\nCALL #1");
        fine("O 1\nCALL 0");
        fine("O 1\nCALL 99 A 1 B -2 Z #100 X[3]");
        due(2, 2, "O 1\nCALL 9 O 1");
        due(2, 2, "O 1\nCALL 9 A 1 A 2");
        due(2, 2, "O 1\nCALL 9 AB 1");
        due(2, 2, "O 1\nX 1 X 2");
        due(2, 2, "O 1\nX");
        due(2, 2, "O 1\nX 1 + 2");
        due(2, 2, "O 1\nX 1 A 2");
        due(2, 2, "O 1\nA 2");
        fine("O 1\nG1X-5Y[1+2]Z#100F1S1P1M3");
        due(2, 2, "O 1\nGX 2");
    }

    private static void blocks() {
        due(2, 2, "O 1\nELSE");
        due(2, 2, "O 1\nEND");
        due(2, 2, "O 1\nON ANY");
        due(2, 2, "O 1\nLAST");
        due(2, 2, "O 1\nIF 1");
        due(2, 3, "O 1\nIF 1\n");
        due(2, 3, "O 1\nIF 1\nO 2\nEND");
        due(2, 4, "O 1\nIF 1\nELSE\nELSE\nEND");
        due(2, 3, "O 1\nWHILE 1\nELSE\nEND");
        due(2, 3, "O 1\nGUARD\nON ANY\nEND");
        due(2, 3, "O 1\nTRY\nON\nEND");
        due(2, 3, "O 1\nTRY\nON SOME\nEND");
        due(2, 3, "O 1\nTRY\nON 1\nEND");
        due(2, 4, "O 1\nTRY\nLAST\nON ANY\nEND");
        due(2, 4, "O 1\nTRY\nLAST\nLAST\nEND");
        due(2, 4, "O 1\nTRY\nIF 1\nON ANY\nEND\nEND");
        due(2, 2, "O 1\nIF");
        due(2, 2, "O 1\nTRY 1");
        fine("O 1\nTRY\nEND\nTRY\nON ANY\nON ANY\nON KIND\nLAST\nEND\nIF 1\nELSE\nEND\nWHILE 0\nEND\nGUARD\nEND\nO 2");
    }

    private static String blocksOf(int many) {
        StringBuilder s = new StringBuilder("O 1\n");
        String[] words = {"IF 1\n", "WHILE 1\n", "TRY\n", "GUARD\n"};
        for (int n = 0; n < many; n++) {
            s.append(words[n % 4]);
        }
        for (int n = 0; n < many; n++) {
            s.append("END\n");
        }
        return s.toString();
    }

    private static void depths() {
        fine(blocksOf(10));
        due(3, 12, blocksOf(11));
        // Within one another: ten, an END, and one more are fine.
        fine(blocksOf(10) + blocksOf(10).substring(4));
        String nineteen = "-#[-#[-#[-#[-#[-#[-";
        String closing = "1]]]]]]";
        fine("O 1\nPRINT " + nineteen + closing);
        fine("O 1\nPRINT " + nineteen + "#" + closing);
        due(3, 2, "O 1\nPRINT " + nineteen + "##" + closing);
        due(3, 2, "O 1\nPRINT " + nineteen + "#-" + closing);
        due(3, 2, "O 1\nPRINT " + nineteen + "#[" + closing + "]");
        due(3, 2, "O 1\nPRINT " + nineteen + "#ABS[" + closing + "]");
        fine("O 1\nPRINT " + nineteen + "#1-1-1-1" + "]]]]]]");
        // Within the sixth [ that - is binary; those behind it are the 19th, 20th and 21st.
        fine("O 1\nPRINT " + nineteen + "#1---1" + "]]]]]]");
        due(3, 2, "O 1\nPRINT " + nineteen + "#1----1" + "]]]]]]");
        fine("O 1\nPRINT " + nineteen + closing + "+" + nineteen + closing);
        fine("O 1\n#" + "-------------------" + "1=1");
        due(3, 2, "O 1\n#" + "--------------------" + "1=1");
        fine("O 1\n#1=" + "--------------------" + "1");
        due(3, 2, "O 1\n#1=" + "---------------------" + "1");
        due(3, 2, "O 1\nX" + "---------------------" + "1 $");
        String twenty = "--------------------";
        fine("O 1\nFIT " + twenty + "1," + twenty + "1");
        due(3, 2, "O 1\nFIT 1,-" + twenty + "1");
        fine("O 1\nCALL 1 A " + twenty + "1 B " + twenty + "1");
        fine("O 1\nPRINT ABS[" + twenty.substring(1) + "1]+MIN[" + twenty.substring(1) + "1," + twenty.substring(1) + "1]");
        due(3, 2, "O 1\nPRINT ABS[" + twenty + "1]");
        due(3, 2, "O 1\nPRINT MIN[1," + twenty + "1]");
        due(3, 2, "O 1\nPRINT MID[1,1," + twenty + "1]");
        // Of one the least: what can't stand there is no depth.
        due(2, 2, "O 1\nPRINT " + "--------------------" + "]");
        due(1, 2, "O 1\nPRINT " + "--------------------" + "$");
    }

    private static String tokensOf(int many) {
        StringBuilder s = new StringBuilder("O1\nPRINT 1");
        for (int n = 4; n < many; n += 2) {
            s.append("+1");
        }
        return s.toString();
    }

    private static String linesOf(int many) {
        StringBuilder s = new StringBuilder("O 1");
        for (int n = 1; n < many; n++) {
            s.append("\n\nF0");
        }
        return s.toString();
    }

    private static String programsOf(int many) {
        StringBuilder s = new StringBuilder();
        for (int n = 0; n < many; n++) {
            s.append("O ").append(n).append("\n(a program)\nF 1\n");
        }
        return s.toString();
    }

    private static void lengths() {
        fine(tokensOf(1000));
        due(4, 0, tokensOf(1000) + "\nRETURN");
        due(4, 0, tokensOf(1002));
        due(4, 0, tokensOf(4000));
        due(2, 2, tokensOf(3000) + "]");
        due(1, 2, tokensOf(3000) + ".");
        fine(linesOf(250));
        due(4, 0, linesOf(251));
        due(4, 0, linesOf(999));
        due(2, 1999, linesOf(999) + "\n\nEND");
        fine(programsOf(12));
        due(4, 0, programsOf(13));
        due(2, 40, programsOf(13) + "END");
        due(2, 5001, "\n".repeat(5000));
        fine("\n".repeat(4997) + "O 1");
        MillCell most = new MillCell();
        Cells.tape(most, linesOf(249) + "\nPRINT 5");
        Cells.due("read()", most.read(), 0);
        Cells.due("count(1)", most.count(1), 250);
        Cells.due("run(1, 999)", most.run(1, 999), 0);
        Cells.due("told(2)", most.told(2), 249);
        Cells.dueReal("real(4, 0)", most.real(4, 0), 5);
        MillCell cell = new MillCell();
        Cells.tape(cell, tokensOf(1000));
        Cells.due("read()", cell.read(), 0);
        Cells.due("count(0)", cell.count(0), 1000);
        Cells.due("run(1, 9)", cell.run(1, 9), 0);
        Cells.dueReal("real(4, 0)", cell.real(4, 0), 499);
        Cells.tape(cell, linesOf(251));
        Cells.due("read()", cell.read(), 4);
        Cells.due("run(1, 9)", Cells.thrown(cell, 1, 9), Cells.STATE);
        Cells.due("count(0)", cell.count(0), 0);
    }
}
