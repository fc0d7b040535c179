import java.util.function.Consumer;

/** Desks to test with. */
final class Desks {
    private Desks() {
    }

    static FeedDesk type(FeedDesk desk, String text) {
        for (char character : text.toCharArray()) desk.append(character);
        return desk;
    }

    /** A new desk with a patch, which is one state in the history. */
    static FeedDesk loaded(String patch) {
        FeedDesk desk = type(new FeedDesk(), patch);
        if (desk.load() < 0) throw new IllegalStateException("a patch that is wrong: " + patch);
        return desk;
    }

    static FeedDesk after(Consumer<FeedDesk> calls) {
        FeedDesk desk = new FeedDesk();
        calls.accept(desk);
        return desk;
    }

    /** A desk in whose state every part is something else than on a new one, with a fade going on and a text. */
    static void busy(FeedDesk desk) {
        type(desk, "c0i800f90g01;c1i600f80s;c2f70m;c3f100;x0:0=100,1=90,2=80,3=100;x1:0=50,2=90,3=100;").load();
        desk.setReturn(0, 3);
        desk.setOwner(1, 0, 1);
        desk.setGroup(1, 0, 60);
        desk.store(2);
        desk.setChannel(0, 1, 10);
        desk.setGroup(0, 1, 1);
        desk.recall(2, 9);
        desk.run(3);
        desk.setChannel(1, 2, 0);
        type(desk, "c9i9");
    }

    /** Leaves the state as it is, and one state in the history, the same one: so that it is seen what is an action. */
    static void settleHistory(FeedDesk desk) {
        for (int action = 0; action < 5; action++) desk.setSend(3, 11, desk.send(3, 11, 0));
        for (int action = 0; action < 4; action++) desk.undo();
    }
}
