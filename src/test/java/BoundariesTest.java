/** Each sentence of the document that names a boundary case, with a test that names its promise. */
public final class BoundariesTest {
    public static void main(String[] args) {
        BoundariesOfInmates.all();
        BoundariesOfRooms.all();
        BoundariesOfBookings.all();
        BoundariesOfVisits.all();
        BoundariesOfBans.all();
        BoundariesOfWishes.all();
        BoundariesOfTexts.all();
        BoundariesOfChanges.all();
        Sentence.end();
        Check.end();
    }
}
