import java.io.IOException;

/** Every sentence of the document has a test of its own here; words of the document that none is for fail it, too. */
public final class SentencesTest {
    private SentencesTest() {
    }

    public static void main(String[] args) throws IOException {
        Doc.read();
        BoundsSays.run();
        TextsSays.run();
        SoldSays.run();
        UndoneSays.run();
        ToldSays.run();
        ActsSays.run();
        AskedSays.run();
        WereSays.run();
        RecordSays.run();
        Doc.finish();
        Check.finish();
    }
}
