/** Every test of the project; ends with 1 if one fails. */
public final class AllTests {
    private AllTests() { }

    public static void main(String[] args) {
        int runs = args.length > 1 ? Integer.parseInt(args[1]) : 3000;
        TextTest.run();
        TextBounds.run();
        IsleTest.run();
        IsleBounds.run();
        RideTest.run();
        RideBounds.run();
        PlanTest.run();
        PlanBounds.run();
        SeenTest.run();
        SeenBounds.run();
        SumsTest.run();
        SumsBounds.run();
        ActsTest.run();
        ActsBounds.run();
        SlotTest.run();
        SlotBounds.run();
        EdgeTest.run();
        LanguageTest.run(args.length > 0 ? args[0] : "src/main/java/NeckRider.java");
        ReadmeTest.run("README.md");
        RandomRuns.run(1, runs);
        Check.everyPromise();
        System.out.println(Check.closingLine());
        if (Check.failed() > 0) {
            System.exit(1);
        }
    }
}
