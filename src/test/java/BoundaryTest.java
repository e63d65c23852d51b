import java.io.IOException;

/** Every boundary case that the document names, each told with its promise and sentence. */
public final class BoundaryTest {
    private BoundaryTest() {
    }

    public static void main(String[] args) throws IOException {
        Sentences document = new Sentences(Face.document());
        new OverviewBoundaries(document).all();
        new TermsBoundaries(document).all();
        new LevelBoundaries(document).all();
        new SettingBoundaries(document).all();
        new RunningBoundaries(document).all();
        new OwnBoundaries(document).all();
        document.end();
        Checks.end();
    }
}
