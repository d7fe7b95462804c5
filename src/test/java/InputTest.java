/** Promises 1 to 6: a new object, the input buffer, the setup text and its errors. */
public final class InputTest {
    private InputTest() {
    }

    public static void main(String[] args) {
        newObject();
        Check.end("InputTest");
    }

    private static void newObject() {
        PlanetDrive drive = new PlanetDrive();
        Check.equal("bodies", drive.count(0), 0);
        Check.equal("stock", drive.count(1), 0);
        Check.equal("start", drive.count(2), 2000);
        Check.equal("slack", drive.count(3), 60);
    }
}
