import java.io.IOException;
import java.nio.file.Files;
import java.nio.file.Path;
import java.util.ArrayList;
import java.util.List;

/** The examples of README.md, run word for word; it begins in the project's directory. */
public final class ReadmeTest {
    private ReadmeTest() {
    }

    public static void main(String[] args) throws IOException {
        plainAuction();
        lostLetters();
        phasesAndChangedWorths();
        settlesWhateverThePostDid();
        everyExampleStandsHere();
        Check.end();
    }

    private static void plainAuction() {
        LetterAuction auction = new LetterAuction(2, 0);  // two crews, two jobs, one phase of step 1
        auction.worth(0, 0, 5);
        auction.worth(0, 1, 3);
        auction.worth(1, 0, 4);                           // a worth that is not set is 0
        while (!auction.settled()) {
            for (int crew = 0; crew < 2; crew++) {
                if (auction.crew(crew, 0) == 0) {         // it is free
                    auction.act(crew);                    // it bids: a letter is on its way
                }
            }
            while (auction.letters() > 0) {
                auction.deliver(0);                       // the letter that was sent first comes
            }
        }
        int total = auction.total();                      // 7: crew 0 has job 1, crew 1 has job 0
        boolean proved = auction.proves();                // true: no other pairing is worth more
        Check.is("total", total, 7);
        Check.yes("proved", proved);
        Check.is("the job of crew 0", auction.crew(0, 1), 1);
        Check.is("the job of crew 1", auction.crew(1, 1), 0);
    }

    static void settle(LetterAuction auction, int crews) {
        deliverAll(auction);
        while (!auction.settled()) {
            for (int crew = 0; crew < crews; crew++) {
                if (auction.crew(crew, 0) == 0) {
                    auction.act(crew);
                } else {
                    auction.resend(crew);
                }
            }
            deliverAll(auction);
        }
    }

    static void deliverAll(LetterAuction auction) {
        while (auction.letters() > 0) {
            auction.deliver(0);
        }
    }

    private static void lostLetters() {
        LetterAuction auction = new LetterAuction(2, 0);
        auction.worth(0, 0, 5);
        auction.worth(1, 0, 4);
        auction.act(0);
        auction.lose(0);                // the bid never comes: crew 0 waits
        auction.resend(0);              // the same bid is on its way again
        auction.twin(0);                // and is there twice
        auction.deliver(1);             // the twin comes first: the desk has crew 0, YES is sent
        settle(auction, 2);
        int total = auction.total();    // 5
        Check.is("total", total, 5);
        Check.yes("proved", auction.proves());
    }

    private static void phasesAndChangedWorths() {
        LetterAuction auction = new LetterAuction(3, 1);
        auction.worth(0, 0, 90);
        auction.worth(1, 0, 70);
        auction.worth(1, 1, 40);
        settle(auction, 3);
        while (auction.count(4) > 1) {  // the step of this phase
            auction.phase();            // prices stay, all crews are free again
            settle(auction, 3);
        }
        int total = auction.total();    // 130: jobs 0 and 1 for crews 0 and 1
        auction.worth(1, 0, 500);       // crew 1 is free again, and job 1 without a crew
        settle(auction, 3);
        int after = auction.total();    // 500: job 0 for crew 1
        Check.is("total", total, 130);
        Check.is("after", after, 500);
        Check.is("the job of crew 1", auction.crew(1, 1), 0);
        Check.yes("proved", auction.proves());
    }

    private static void settlesWhateverThePostDid() {
        LetterAuction full = Runs.greatestPost();
        settle(full, 6);
        Check.yes("after the most letters", full.proves());
        LetterAuction robbed = Runs.contested();
        robbed.deliver(0);
        while (robbed.letters() > 0) {
            robbed.lose(0);
        }
        settle(robbed, 2);
        Check.yes("after a LOSS and a YES that are lost", robbed.proves());
    }

    private static void everyExampleStandsHere() throws IOException {
        String tested = stripped(Files.readAllLines(Path.of("src/test/java/ReadmeTest.java")));
        List<String> example = null;
        int examples = 0;
        for (String line : Files.readAllLines(Path.of("README.md"))) {
            if (line.equals("```java")) {
                example = new ArrayList<>();
            } else if (line.equals("```") && example != null) {
                examples++;
                Check.yes("example " + examples + " is tested", tested.contains(stripped(example)));
                example = null;
            } else if (example != null) {
                example.add(line);
            }
        }
        Check.is("examples", examples, 4);
    }

    private static String stripped(List<String> lines) {
        StringBuilder text = new StringBuilder("\n");
        for (String line : lines) {
            text.append(line.strip()).append('\n');
        }
        return text.toString();
    }
}
