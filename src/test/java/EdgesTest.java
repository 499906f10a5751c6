import java.io.IOException;

/** Each sentence of the document, with a test of its own: see Sentences. */
public final class EdgesTest {
    public static void main(String[] args) throws IOException {
        Sentences.read();
        ItemEdges.all();
        FeedEdges.all();
        CampaignEdges.all();
        DownloadEdges.all();
        CallEdges.all();
        Sentences.allAreNamed();
        Suite.end("EdgesTest");
    }
}
