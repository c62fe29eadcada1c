import java.io.IOException;
import java.nio.file.Path;

/** Each sentence of the document, above all those that name a boundary, with a test of its own. */
public final class BoundariesTest {
    private BoundariesTest() {
    }

    public static void main(String[] args) throws IOException {
        Doc d = new Doc(Path.of("../shared/DOC.md"));
        TermCases.all(d);
        TankCases.all(d);
        CargoCases.all(d);
        PlanCases.all(d);
        BestCases.all(d);
        SeaCases.all(d);
        PourCases.all(d);
        if (d.end() != 0) {
            System.exit(1);
        }
    }
}
