import java.io.IOException;
import java.nio.file.Files;
import java.nio.file.Path;
import java.util.ArrayList;
import java.util.Collections;
import java.util.List;

/** README.md's example is the code below, word for word, and answers what its notes say. */
public final class ReadmeTest {
    private static int wrong = 0;

    private static void check(String what, boolean holds) {
        if (!holds) {
            wrong++;
            System.out.println("not so: " + what);
        }
    }

    private static void due(String name, int got, int want) {
        check(name + " is " + got + ", and the example says " + want, got == want);
    }

    private static void example() {
        BorrowedHours game = new BorrowedHours();
        game.set(BorrowedHours.LOAN, 1);             // both may borrow an hour; this begins a new game
        game.begin(6, 5);                            // the hours of the players 0 and 1
        int time = game.player(0, 6);                // 6: the player 0 can force a win in 6 rounds
        int bid = game.bestBid();                    // 3: the best bid of the first bidder
        int answer = game.bestAnswer(bid);           // 0: nothing helps the other one now
        int taker = game.round(bid, answer);         // 0: the player 0 takes the round, and pays 3
        int hand = game.count(4);                    // 1: the hand has moved up
        int tooMuch = game.round(14, 0);             // NOT_POSSIBLE: the player 1 may not bid 14, and nothing is changed
        game.put('2' << 16 | ':' << 8 | '1');        // appends 2:1 to the pad
        int played = game.run();                     // 1: one round is played from the pad
        int left = game.undo();                      // 3: that round is undone; three more changes can be
        due("time", time, 6);
        due("bid", bid, 3);
        due("answer", answer, 0);
        due("taker", taker, 0);
        due("hand", hand, 1);
        due("tooMuch", tooMuch, BorrowedHours.NOT_POSSIBLE);
        due("played", played, 1);
        due("left", left, 3);
        due("what 0 paid", game.player(0, 3), 3);
        due("the rounds behind undo", game.count(6), 1);
    }

    private static List<String> exampleOfReadme() throws IOException {
        List<String> lines = new ArrayList<>();
        boolean inside = false;
        for (String line : Files.readAllLines(Path.of("README.md"))) {
            if (inside && line.equals("```")) {
                return lines;
            }
            if (inside) {
                lines.add(line);
            }
            inside = inside || line.equals("```java");
        }
        return lines;
    }

    private static List<String> linesOfThis() throws IOException {
        List<String> lines = new ArrayList<>();
        for (String line : Files.readAllLines(Path.of("src/test/java/ReadmeTest.java"))) {
            lines.add(line.strip());
        }
        return lines;
    }

    private static void errors() throws IOException {
        String readme = Files.readString(Path.of("README.md"));
        String[] names = {"NO_SUCH", "BAD_VALUE", "BAD_TEXT", "TOO_MANY", "NOT_POSSIBLE"};
        for (int i = 0; i < names.length; i++) {
            check("README.md names the error " + names[i], readme.contains("| `" + names[i] + "` | " + (-1001 - i) + " |"));
        }
        check("README.md says that NONE is no error", readme.contains("`NONE` (-1006) is no error"));
        check("README.md says for how many calls an object is meant", readme.contains("at most 512 calls"));
        check("README.md names the command of the tests", readme.contains("\n    .ci/run\n"));
    }

    public static void main(String[] args) throws IOException {
        example();
        List<String> lines = exampleOfReadme();
        check("README.md has an example", !lines.isEmpty());
        check("README.md's example is the one of this test", Collections.indexOfSubList(linesOfThis(), lines) >= 0);
        errors();
        System.out.println(wrong == 0 ? "the example answers what it says" : wrong + " things are not so");
        if (wrong != 0) {
            System.exit(1);
        }
    }
}
