/** Each promise at its bounds: what it does and answers; RefusedTest has what it refuses. */
public final class PromiseTest {
    private PromiseTest() {
    }

    public static void main(String[] args) {
        RolePromises.all();
        GamePromises.all();
        NightPromises.all();
        DayPromises.all();
        WorldPromises.all();
        RatingPromises.all();
        Doc.allPromisesAreQuoted();
        Due.end("PromiseTest");
    }
}
