/** Promise 3: A FOLDER more: its number; NONE: no such FOLDER, 20 are there. */
public final class Promise03FolderTest {
    private static final Checks CHECK = new Checks();

    public static void main(String[] args) throws IllegalAccessException {
        CHECK.runAll(Promise03FolderTest.class);
    }

    static void promise03NumbersFoldersAsTheyCome() {
        Desk desk = new Desk();
        CHECK.same("in 0", desk.folder(0), 1);
        CHECK.same("in 0 again", desk.folder(0), 2);
        CHECK.same("in 1", desk.folder(1), 3);
        CHECK.same("count(0)", desk.count(0), 4);
    }

    /** "each other one lies in one that is there": the last one that is. */
    static void promise03TakesTheLastFolderThatIsThere() {
        Desk desk = new Desk();
        desk.folder(0);
        desk.folder(0);
        CHECK.same("folder(2)", desk.folder(2), 3);
        CHECK.same("folder(3)", desk.folder(3), 4);
    }

    /** "no such FOLDER". */
    static void promise03RefusesFoldersThatAreNotThere() {
        Desk desk = new Desk();
        CHECK.none("folder", desk::folder, 1, 2, 19, 20, Checks.MAX, -1, -2, Checks.MIN);
        CHECK.same("count(0)", desk.count(0), 1);
        desk.folder(0);
        CHECK.none("folder", desk::folder, 2, 19, -1);
        CHECK.same("count(0)", desk.count(0), 2);
        CHECK.same("the next one's number", desk.folder(1), 2);
    }

    /** "FOLDERS, 20 at most": the 20th. */
    static void promise03TakesTheTwentiethFolder() {
        Desk desk = new Desk();
        for (int number = 1; number < 19; number++) {
            CHECK.same("folder(0)", desk.folder(0), number);
        }
        CHECK.same("the 20th", desk.folder(18), 19);
        CHECK.same("count(0)", desk.count(0), 20);
    }

    /** "20 are there". */
    static void promise03RefusesTheTwentyFirstFolder() {
        Desk desk = new Desk();
        desk.nestFolders();
        CHECK.none("folder", desk::folder, 0, 1, 18, 19, 20, -1);
        CHECK.same("count(0)", desk.count(0), 20);
        CHECK.same("a paper in folder 19", desk.paperOf(19, 0, 1), 0);
        CHECK.same("a paper in folder 20", desk.paperOf(20, 0, 1), -1);
    }

    /** The folder that was refused does not lie anywhere, and those that are there lie where they lay. */
    static void promise03RefusedFolderMovesNone() {
        Desk desk = new Desk();
        desk.nestFolders();
        desk.folder(3);
        desk.paperOf(19, 0, 1);
        CHECK.same("found from 18", desk.found(desk.ask(18, 0, 0)), 1);
        CHECK.same("found from 4", desk.found(desk.ask(4, 0, 0)), 1);
    }

    static void promise03RefusedFoldersLeaveAllAsItWas() {
        CHECK.unchanged(desk -> CHECK.none("folder", desk::folder, -1, 3, 20, Checks.MIN, Checks.MAX));
    }
}
