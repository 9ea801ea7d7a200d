/** Makes the four pieces of one bird and puts it together. */
public class Smith {
    private final BirdForge forge = new BirdForge();

    public static void main(String[] args) {
        new Smith().makeBird();
    }

    private void makeBird() {
        forge.addHammer(9);
        for (char kind : "bnww".toCharArray()) {
            int piece = forge.addPiece(kind);
            heat(piece);
            while (forge.stages(piece) < 10) {
                forge.hammer(piece, 0);
            }
            forge.quench(piece);
            System.out.println(forge.test(piece) + " " + line(forge.writePiece(piece)));
        }
        System.out.println("birds: " + forge.assemble(1, 2, 3, 4));
    }

    private void heat(int piece) {
        if (forge.coal() < 50) {
            forge.addCoal(50);
        }
        forge.setBellows(5);
        forge.putIn(piece);
        while (forge.temperature(piece) < 800) {
            forge.advance(1);
        }
        forge.takeOut(piece);
    }

    private String line(int length) {
        StringBuilder text = new StringBuilder();
        for (int i = 0; i < length; i++) {
            text.append(forge.outputAt(i));
        }
        return text.toString();
    }
}
