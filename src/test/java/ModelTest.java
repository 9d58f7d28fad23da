import java.util.List;
import java.util.Random;

/** Runs of calls by chance, each as long as the document speaks of, and each answer held against the slow model's. */
public final class ModelTest {
    private static final Checks CHECKS = new Checks();
    private static final int RUNS = 800;
    private static final int CALLS = 512;

    private final Random random;
    private final Guesswright house = new Guesswright();
    private final Model model = new Model();
    private int calls = 0;

    private ModelTest(int seed) {
        random = new Random(seed);
    }

    public static void main(String[] arguments) {
        int runs = arguments.length > 1 ? Integer.parseInt(arguments[1]) : RUNS;
        for (int seed = 0; seed < runs; seed++) {
            new ModelTest(seed).play(seed);
        }
        CHECKS.end();
    }

    private void play(int seed) {
        int style = seed % 4;
        while (calls < CALLS) {
            step("run " + seed + ", call " + calls + ": ", style);
        }
    }

    private int upTo(int bound) {
        return random.nextInt(bound);
    }

    private int mostly(int least, int most) {
        switch (upTo(40)) {
            case 0:
                return least - 1;
            case 1:
                return most + 1;
            case 2:
                return random.nextInt();
            default:
                return least + upTo(most - least + 1);
        }
    }

    private char letter() {
        return upTo(30) == 0 ? (char) upTo(300) : "wsp".charAt(upTo(3));
    }

    private int game() {
        return mostly(0, Math.max(0, model.games() - 1));
    }

    private int thing(int game) {
        int things = count(() -> model.things(game));
        int left = count(() -> model.left(game));
        return upTo(4) > 0 && left > 0 ? model.leftAt(game, upTo(left)) : mostly(0, Math.max(0, things - 1));
    }

    private static int count(Checks.Call call) {
        try {
            return (Integer) call.answer();
        } catch (RuntimeException none) {
            return 0;
        }
    }

    private int question(int game) {
        List<Integer> questions = model.questionsOf(game);
        return questions.isEmpty() || upTo(30) == 0 ? mostly(0, 1300) : questions.get(upTo(questions.size()));
    }

    private int answer(int game, int question) {
        int thing = thing(game);
        return upTo(8) == 0 ? upTo(45) - 1 : count(() -> model.answer(game, thing, question));
    }

    private void same(String what, Checks.Call ofModel, Checks.Call ofHouse) {
        if (calls >= CALLS) {
            return;
        }
        calls++;
        Object due;
        try {
            due = ofModel.answer();
        } catch (RuntimeException thrown) {
            due = thrown.getClass().getName();
        }
        CHECKS.is(what, due, ofHouse);
    }

    /** In the last style small games are made, changed and taken away far more often than asked. */
    private void step(String run, int style) {
        int kind = upTo(style == 3 && upTo(4) > 0 ? 50 : 100);
        if (kind < 14) {
            make(run, style);
        } else if (kind < 44) {
            answers(run, style);
        } else if (kind < 62) {
            asks(run);
        } else if (kind < 78) {
            searches(run);
        } else {
            figures(run);
        }
    }

    private void make(String run, int style) {
        int which = upTo(12);
        int a = mostly(1, style % 3 == 0 ? 3 : 4);
        int b = mostly(1, style % 3 == 0 ? 3 : 5);
        int c = mostly(1, style % 3 == 0 ? 3 : 5);
        boolean is = random.nextBoolean();
        if (which < 2) {
            int colours = mostly(1, style % 3 == 0 ? 3 : 6);
            same(run + "codes " + a + " " + colours + " " + is, () -> model.codes(a, colours, is),
                    () -> house.codes(a, colours, is));
        } else if (which == 2) {
            int many = mostly(1, style % 3 == 0 ? 14 : 64);
            same(run + "numbers " + many, () -> model.numbers(many), () -> house.numbers(many));
        } else if (which == 3) {
            int coins = mostly(2, style % 3 == 0 ? 4 : 7);
            same(run + "coins " + coins + " " + is, () -> model.coins(coins, is), () -> house.coins(coins, is));
        } else if (which < 6) {
            int ships = mostly(1, upTo(2) == 0 ? 5 : 60) + (upTo(4) == 0 ? 100 * (1 + upTo(5)) : 0);
            same(run + "fleets " + b + " " + c + " " + ships + " " + is, () -> model.fleets(b, c, ships, is),
                    () -> house.fleets(b, c, ships, is));
        } else if (which < 8) {
            int mines = mostly(0, 4);
            same(run + "mines " + b + " " + c + " " + mines + " " + is, () -> model.mines(b, c, mines, is),
                    () -> house.mines(b, c, mines, is));
        } else if (which < 10) {
            graph(run, style);
        } else if (which == 10) {
            int game = model.games() - 1 - upTo(3);
            int lies = mostly(0, 3);
            same(run + "setLies " + game + " " + lies, () -> model.setLies(game, lies),
                    () -> house.setLies(game, lies));
        } else if (model.games() > 5 || style == 3) {
            same(run + "clear", model::clear, house::clear);
        }
    }

    private void graph(String run, int style) {
        int most = style % 3 == 0 ? 10 : 20;
        int vertices = mostly(1, most);
        if (upTo(2) == 0) {
            same(run + "vertices " + vertices, () -> model.vertices(vertices), () -> house.vertices(vertices));
        }
        int edges = upTo(30);
        for (int i = 0; i < edges; i++) {
            int one = mostly(0, Math.min(most, Math.max(1, vertices)));
            int other = mostly(0, most);
            same(run + "edge " + one + " " + other, () -> model.edge(one, other), () -> house.edge(one, other));
        }
        same(run + "graph", model::graph, house::graph);
    }

    private void answers(String run, int style) {
        int game = game();
        int which = upTo(style == 1 ? 8 : 12);
        int question = question(game);
        if (which < 5) {
            int answer = answer(game, question);
            same(run + "take " + game + " " + question + " " + answer, () -> model.take(game, question, answer),
                    () -> house.take(game, question, answer));
        } else if (which < 8) {
            same(run + "adverse " + game + " " + question, () -> model.adverse(game, question),
                    () -> house.adverse(game, question));
        } else {
            same(run + "back " + game, () -> model.back(game), () -> house.back(game));
        }
        same(run + "left " + game, () -> model.left(game), () -> house.left(game));
    }

    private void asks(String run) {
        int game = game();
        int thing = thing(game);
        int question = question(game);
        int index = mostly(0, 20);
        int seed = mostly(0, 99999);
        same(run + "things " + game, () -> model.things(game), () -> house.things(game));
        same(run + "questions " + game, () -> model.questions(game), () -> house.questions(game));
        same(run + "leftAt " + game + " " + index, () -> model.leftAt(game, index), () -> house.leftAt(game, index));
        same(run + "told " + game + " " + thing, () -> model.told(game, thing), () -> house.told(game, thing));
        same(run + "liesOf " + game + " " + thing, () -> model.liesOf(game, thing), () -> house.liesOf(game, thing));
        same(run + "answer " + game + " " + thing + " " + question, () -> model.answer(game, thing, question),
                () -> house.answer(game, thing, question));
        same(run + "draw " + game + " " + seed, () -> model.draw(game, seed), () -> house.draw(game, seed));
    }

    private void searches(String run) {
        int game = game();
        int thing = thing(game);
        boolean isBig = count(() -> model.things(game)) > 300 && count(() -> model.left(game)) > 40;
        char what = letter();
        int question = question(game);
        same(run + "weigh " + game + " " + question + " " + what, () -> model.weigh(game, question, what),
                () -> house.weigh(game, question, what));
        if (!isBig || upTo(30) == 0) {
            same(run + "best " + game + " " + what, () -> model.best(game, what), () -> house.best(game, what));
        }
        if (!isBig || upTo(100) == 0) {
            same(run + "find " + game + " " + thing + " " + what, () -> model.find(game, thing, what),
                    () -> house.find(game, thing, what));
        }
        same(run + "depth " + game, () -> model.depth(game), () -> house.depth(game));
        same(run + "leastSum " + game, () -> model.leastSum(game), () -> house.leastSum(game));
        same(run + "atOnce " + game, () -> model.atOnce(game), () -> house.atOnce(game));
        same(run + "proof " + game + " " + thing, () -> model.proof(game, thing), () -> house.proof(game, thing));
    }

    private void figures(String run) {
        int game = game();
        int thing = thing(game);
        int question = question(game);
        int cell = mostly(0, Math.max(0, model.questionsOf(game).size() - 1));
        int number = mostly(0, 40);
        boolean is = random.nextBoolean();
        same(run + "part " + game + " " + question + " " + number, () -> model.part(game, question, number),
                () -> house.part(game, question, number));
        same(run + "weight " + game + " " + number, () -> model.weight(game, number), () -> house.weight(game, number));
        same(run + "at " + game + " " + cell, () -> model.at(game, cell), () -> house.at(game, cell));
        same(run + "sure " + game + " " + is, () -> model.sure(game, is), () -> house.sure(game, is));
        same(run + "isClear " + game + " " + thing + " " + cell, () -> model.isClear(game, thing, cell),
                () -> house.isClear(game, thing, cell));
        same(run + "bits " + game, () -> model.bits(game), () -> house.bits(game));
        same(run + "unlike", model::unlike, house::unlike);
        same(run + "leftShare " + game, () -> model.leftShare(game), () -> house.leftShare(game));
        same(run + "meanLeft " + game + " " + question, () -> model.meanLeft(game, question),
                () -> house.meanLeft(game, question));
        same(run + "isTrue", model::isTrue, house::isTrue);
    }
}
