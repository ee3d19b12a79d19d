/** Each sentence of the document that names a boundary case, by the words it stands in. */
public final class EdgesTest {
    public static void main(String[] args) {
        EdgesOfDesert.all();
        EdgesOfDay.all();
        EdgesOfText.all();
        EdgesOfDaysOn.all();
        EdgesOfWinds.all();
        EdgesOfHowMany.all();
        EdgesOfToldBooks.all();
        EdgesOfShelves.all();
        EdgesOfRefusals.all();
        Edge.noteTheRest();
        Check.end();
    }
}
