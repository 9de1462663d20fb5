public final class SmokeTest {
    public static void main(String[] args) {
        new Script("smoke").due("client()", 0).refused("buy(0, 0, 1)", Script.STATE);
        Script.end();
    }
}
