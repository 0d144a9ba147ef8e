/** Promise 1: a new object. */
public final class FaceTest {
    public static void main(String[] args) {
        ProofServer x = new ProofServer();
        if (x.state(0) != 0 || x.state(3) != 0) {
            System.out.println("a new object is not new");
            System.exit(1);
        }
    }
}
