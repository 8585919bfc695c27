#!/usr/bin/env python3
"""By hand, not part of .ci/run: which small faults in FaceLetters would no boundary test see?

Each mutant has one token or one statement of the class changed. It is compiled, and the tests
named (those of the boundaries, if none is) are run on it; those that all pass are printed.
NOTES.md says why the ones that are left are no faults. It takes some five minutes on 8 cores.
"""
import collections
import concurrent.futures
import glob
import os
import re
import subprocess
import sys
import tempfile

ROOT = os.path.dirname(os.path.dirname(os.path.dirname(os.path.abspath(__file__))))
MAIN = ROOT + '/src/main/java/FaceLetters.java'
TESTS = sys.argv[1:] or ['NetBoundsTest', 'DeedBoundsTest', 'RefusalsTest']
OTHER_SIGNS = {'<=': ['<', '=='], '>=': ['>', '=='], '<': ['<=', '!='], '>': ['>=', '!='], '==': ['!='], '!=': ['==']}
GUARD = r'\s*if .*return \w+;$'
KEPT = r'(private|public|return|case|int |boolean |for|break|continue|else|default)'


def changed_lines(line):
    for m in re.finditer(r'(?<![<>=!|&])(<=|>=|==|!=|<|>)(?![<>=])', line):
        for sign in OTHER_SIGNS[m.group(1)]:
            yield line[:m.start()] + sign + line[m.end():]
    for m in re.finditer(r'(?<![\w.])(\d+)(L?)(?!\w)', line):
        for n in (int(m.group(1)) + 1, int(m.group(1)) - 1):
            yield '%s(%d%s)%s' % (line[:m.start()], n, m.group(2), line[m.end():])
    for m in re.finditer(r'&&|\|\|', line):
        yield line[:m.start()] + ('||' if m.group(0) == '&&' else '&&') + line[m.end():]
    for m in re.finditer(r' ([+\-]) ', line):
        yield line[:m.start()] + (' - ' if m.group(1) == '+' else ' + ') + line[m.end():]
    if 'if (!' in line:
        yield line.replace('if (!', 'if (', 1)
    if line.rstrip().endswith(';') and not re.match(KEPT, line.strip()):
        yield '' if line.strip().startswith('if ') else ';'
    m = re.match(r'(\s*)return (.+);$', line)
    if m:
        yield '%sreturn (%s) + 1;' % m.groups()


def mutants(lines):
    for i, line in enumerate(lines):
        if re.match(r'\s*(//|/\*|import|$)', line):
            continue
        for changed in changed_lines(line):
            yield i, line.strip() + '\n    => ' + changed.strip(), lines[:i] + [changed] + lines[i + 1:]
        if i + 1 < len(lines) and re.match(GUARD, line) and re.match(GUARD, lines[i + 1]):
            yield i, line.strip() + '\n    => behind the next line', lines[:i] + [lines[i + 1], line] + lines[i + 2:]


def judge(mutant, tests_at):
    with tempfile.TemporaryDirectory() as place:
        with open(place + '/FaceLetters.java', 'w') as f:
            f.write('\n'.join(mutant[2]))
        if subprocess.run(['javac', '-d', place, place + '/FaceLetters.java'], capture_output=True).returncode:
            return 'not compiled'
        for test in TESTS:
            try:
                if subprocess.run(['java', '-cp', place + ':' + tests_at, test], capture_output=True, timeout=60).returncode:
                    return 'seen'
            except subprocess.TimeoutExpired:
                return 'seen'
        return 'not seen'


def main():
    with open(MAIN) as f:
        lines = f.read().split('\n')
    with tempfile.TemporaryDirectory() as tests_at:
        files = [ROOT + '/src/test/java/' + test + '.java' for test in TESTS] + glob.glob(ROOT + '/src/test/java/support/*.java')
        subprocess.check_call(['javac', '-d', tests_at, MAIN] + files)
        for compiled in glob.glob(tests_at + '/FaceLetters*.class'):
            os.remove(compiled)
        every = list(mutants(lines))
        with concurrent.futures.ThreadPoolExecutor(os.cpu_count()) as pool:
            verdicts = list(pool.map(lambda mutant: judge(mutant, tests_at), every))
    for (i, what, _), verdict in zip(every, verdicts):
        if verdict == 'not seen':
            print('line %d: %s' % (i + 1, what))
    print(dict(collections.Counter(verdicts)))


main()
