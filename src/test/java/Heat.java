/** Scripts that bring pieces to states which the document names, from a new forge with 20 units of coal. */
final class Heat {
    private static final String FULL = "addCoal 50, addCoal 29, setBellows ";

    /** From a new forge with a piece 1: quenched at 700 degrees, so with the hardness 22, and untested. */
    static final String QUENCHED = to(700) + ", quench 1";

    private Heat() {
    }

    /** Brings piece 1 from the cold to the bench with just this temperature. */
    static String to(int degrees) {
        return FULL + switch (degrees) {
            case 27 -> "3, putIn 1, advance 1, takeOut 1, advance 7";
            case 28 -> "4, putIn 1, advance 1, takeOut 1, advance 9";
            case 499 -> "5, putIn 1, advance 31, takeOut 1, advance 3";
            case 500 -> "3, putIn 1, advance 16, takeOut 1, advance 1";
            case 501 -> "5, advance 9, putIn 1, advance 3, takeOut 1";
            case 599 -> "5, putIn 1, advance 15, takeOut 1, advance 3";
            case 600 -> "4, advance 13, putIn 1, advance 4, takeOut 1";
            case 611 -> "5, advance 5, putIn 1, advance 6, takeOut 1";
            case 612 -> "5, advance 4, putIn 1, advance 8, takeOut 1, advance 1";
            case 624 -> "4, putIn 1, advance 36, takeOut 1, advance 1";
            case 625 -> "5, advance 7, putIn 1, advance 5, takeOut 1";
            case 699 -> "4, advance 5, putIn 1, advance 10, takeOut 1";
            case 700 -> "5, advance 7, putIn 1, advance 25, takeOut 1";
            case 703 -> "3, putIn 1, advance 21, takeOut 1";
            case 704 -> "4, advance 4, putIn 1, advance 11, takeOut 1";
            case 768 -> "5, advance 4, putIn 1, advance 26, takeOut 1";
            case 776 -> "4, advance 13, putIn 1, advance 21, takeOut 1";
            case 900 -> "3, advance 15, putIn 1, advance 17, takeOut 1";
            case 1000 -> "4, advance 6, putIn 1, advance 21, takeOut 1";
            case 1048 -> "5, advance 4, putIn 1, advance 15, takeOut 1";
            case 1056 -> "5, advance 5, putIn 1, advance 15, takeOut 1";
            case 1100 -> "5, advance 10, addCoal 50, advance 3, putIn 1, advance 12, takeOut 1";
            case 1101 -> "4, advance 13, addCoal 50, putIn 1, advance 26, takeOut 1";
            case 1138 -> "4, advance 13, addCoal 50, advance 13, addCoal 50, putIn 1, advance 22, takeOut 1";
            default -> throw new AssertionError("no script to " + degrees);
        };
    }

    /** Body 1, neck 2 and the wings 3 and 4, all passed and on the bench. */
    static String fourPassed() {
        return fourParts(0, true, true);
    }

    /** The same, but one piece is not hammered, so that it fails, or not tested. */
    static String fourParts(int odd, boolean hammered, boolean tested) {
        StringBuilder script = new StringBuilder("addHammer 9, addPiece b, addPiece n, addPiece w, addPiece w, " + FULL
                + "3, advance 15, putIn 1, putIn 2, putIn 3, advance 17, takeOut 1, takeOut 2, takeOut 3");
        for (int piece = 1; piece <= 4; piece++) {
            if (piece == 4) {
                script.append(", addCoal 50, putIn 4, advance 8, takeOut 4");
            }
            script.append(piece == odd && !hammered ? "" : ", 3 * hammer " + piece + " 0");
            script.append(", quench ").append(piece);
            script.append(piece == odd && !tested ? "" : ", test " + piece);
        }
        return script.toString();
    }
}
