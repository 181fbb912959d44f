import java.io.IOException;

/** The document sentence by sentence: each has its own test, and none is left without one. */
public final class EdgesTest {
    public static void main(String[] args) throws IOException {
        EdgesLand.all();
        EdgesRough.all();
        EdgesCourses.all();
        EdgesTime.all();
        EdgesRules.all();
        EdgesState.all();
        EdgesDraw.all();
        EdgesBest.all();
        Doc.allIsSaid();
        Check.end();
    }
}
