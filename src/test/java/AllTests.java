/** Runs the project's own tests; ends with exit code 1 if one failed. */
public final class AllTests {
    public static void main(String[] args) {
        Checks c = new Checks();
        FaceTest.run(c);
        PromisesTest.run(c);
        EdgesTest.run(c);
        HourEdgesTest.run(c);
        AnswerEdgesTest.run(c);
        ModelTest.run(c);
        System.out.println(c.passed + " passed, " + c.failed + " failed");
        if (c.failed > 0) {
            System.exit(1);
        }
    }
}
