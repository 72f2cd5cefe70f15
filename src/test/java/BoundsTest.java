/** Each sentence of the document that names a boundary case: a run of its own, that has the sentence as its title. */
public final class BoundsTest {
    private BoundsTest() {
    }

    public static void main(String[] args) {
        BoundsOfThings.all();
        BoundsOfStates.all();
        BoundsOfQueries.all();
        BoundsOfRequests.all();
        BoundsOfSending.all();
        BoundsOfTheStore.all();
        BoundsOfWhatIsAsked.all();
        Runs.end("sentences");
    }
}
