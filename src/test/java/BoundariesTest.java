import java.io.IOException;

/**
 * Each sentence of the document, with a test of its own that names the promise and quotes the sentence:
 * what is just inside and just outside, the empty and the full, what wraps around, and what is refused.
 */
public final class BoundariesTest {
    private BoundariesTest() {
    }

    public static void main(String[] args) throws IOException {
        Doc.read();
        BoundsOfTheFace.run();
        BoundsOfLocks.run();
        BoundsOfTouchesAndLots.run();
        BoundsOfTexts.run();
        BoundsOfHistory.run();
        BoundsOfErrors.run();
        BoundsOfChanges.run();
        BoundsOfReading.run();
        BoundsOfWouldBe.run();
        Doc.end();
        Check.end();
    }
}
