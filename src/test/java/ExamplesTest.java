/** The five examples of the document. */
public final class ExamplesTest {
    public static void main(String[] args) {
        Script.run("example 1", "net(false) = 0; pin(0, 0, 0) = 0; pin(0, 0, 3) = 1; wouldCost(0) = 3; route(0) = 3; "
                + "at(0, 1, 0) = 0; at(0, 1, 1) = -1; netOf(0, 4) = 2");
        Script.run("example 2", "net(false) = 0; pin(0, 0, 0) = 0; pin(0, 0, 3) = 1; wall(0, 2, 0) = 1; route(0) = 6; "
                + "holes() = 0; cellsOf(0) = 6; cellsAgain(0) = 6");
        Script.run("example 3", "net(false) = 0; net(true) = 1; pin(0, 0, 0) = 0; pin(0, 0, 3) = 1; route(0) = 3; "
                + "pin(1, 1, 1) = throws UnsupportedOperationException; reason(0) = 6; reason(1) = 0");
        Script.run("example 4", "net(false) = 0; pin(0, 2, 0) = 0; pin(0, 2, 5) = 1; route(0) = 5; line(2, 0) = 8; "
                + "rip(0) = 4; line(2, 0) = 8");
        Script.run("example 5", "append('r') = 1; append('x') = 2; commands() = throws IllegalArgumentException; "
                + "faultPosition() = 1; route(0) = throws UnsupportedOperationException; reason(0) = 3");
        Script.finish();
    }
}
