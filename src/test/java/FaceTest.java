/** The face: promises 1 to 12 with plain inputs, edges and wrong inputs. */
public final class FaceTest {
    public static void main(String[] args) {
        newObject();
        Tongue.close();
    }

    private static void newObject() {
        EnvironTongue x = new EnvironTongue();
        Tongue.due("state", x.state(), 0);
        Tongue.due("out", x.out(), 0);
        Tongue.due("told", x.told(), 0);
        Tongue.due("fuel", x.fuel(), 0);
        Tongue.due("made", x.made(), 0);
        Tongue.due("bindings", x.bindings(), 0);
        Tongue.due("run", x.run(5), 0);
    }
}
