/-! weak contracts: members, the file, the class (laid by wip/p2/c43.py) -/
