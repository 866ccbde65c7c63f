theorem xall0 {Q : Nat → Prop} : ∀ m, m < 0 → Q m := fun m h => absurd h (Nat.not_lt_zero m)
theorem xallS {Q : Nat → Prop} {n : Nat} (h : ∀ m, m < n → Q m) (hn : Q n) : ∀ m, m < n + 1 → Q m := fun m hm => by
  rcases Nat.lt_or_ge m n with q | q
  · exact h m q
  · have e : m = n := by omega
    rw [e]; exact hn
set_option maxRecDepth 100000 in
theorem cw0 : xwd (pWp 0).1 = some (.code (pY 0) (pZ 0) (pM 0).2.2 (pM 0).2.1) := by rfl
set_option maxRecDepth 100000 in
theorem cw1 : xwd (pWp 1).1 = some (.code (pY 1) (pZ 1) (pM 1).2.2 (pM 1).2.1) := by rfl
set_option maxRecDepth 100000 in
theorem cw2 : xwd (pWp 2).1 = some (.code (pY 2) (pZ 2) (pM 2).2.2 (pM 2).2.1) := by rfl
set_option maxRecDepth 100000 in
theorem cw3 : xwd (pWp 3).1 = some (.code (pY 3) (pZ 3) (pM 3).2.2 (pM 3).2.1) := by rfl
set_option maxRecDepth 100000 in
theorem cw4 : xwd (pWp 4).1 = some (.code (pY 4) (pZ 4) (pM 4).2.2 (pM 4).2.1) := by rfl
set_option maxRecDepth 100000 in
theorem cw5 : xwd (pWp 5).1 = some (.code (pY 5) (pZ 5) (pM 5).2.2 (pM 5).2.1) := by rfl
set_option maxRecDepth 100000 in
theorem cw6 : xwd (pWp 6).1 = some (.code (pY 6) (pZ 6) (pM 6).2.2 (pM 6).2.1) := by rfl
set_option maxRecDepth 100000 in
theorem cw7 : xwd (pWp 7).1 = some (.code (pY 7) (pZ 7) (pM 7).2.2 (pM 7).2.1) := by rfl
set_option maxRecDepth 100000 in
theorem cw8 : xwd (pWp 8).1 = some (.code (pY 8) (pZ 8) (pM 8).2.2 (pM 8).2.1) := by rfl
set_option maxRecDepth 100000 in
theorem cw9 : xwd (pWp 9).1 = some (.code (pY 9) (pZ 9) (pM 9).2.2 (pM 9).2.1) := by rfl
set_option maxRecDepth 100000 in
theorem cw10 : xwd (pWp 10).1 = some (.code (pY 10) (pZ 10) (pM 10).2.2 (pM 10).2.1) := by rfl
set_option maxRecDepth 100000 in
theorem cw11 : xwd (pWp 11).1 = some (.code (pY 11) (pZ 11) (pM 11).2.2 (pM 11).2.1) := by rfl
set_option maxRecDepth 100000 in
theorem cw12 : xwd (pWp 12).1 = some (.code (pY 12) (pZ 12) (pM 12).2.2 (pM 12).2.1) := by rfl
set_option maxRecDepth 100000 in
theorem cw13 : xwd (pWp 13).1 = some (.code (pY 13) (pZ 13) (pM 13).2.2 (pM 13).2.1) := by rfl
set_option maxRecDepth 100000 in
theorem cw14 : xwd (pWp 14).1 = some (.code (pY 14) (pZ 14) (pM 14).2.2 (pM 14).2.1) := by rfl
set_option maxRecDepth 100000 in
theorem cw15 : xwd (pWp 15).1 = some (.code (pY 15) (pZ 15) (pM 15).2.2 (pM 15).2.1) := by rfl
set_option maxRecDepth 100000 in
theorem cw16 : xwd (pWp 16).1 = some (.code (pY 16) (pZ 16) (pM 16).2.2 (pM 16).2.1) := by rfl
set_option maxRecDepth 100000 in
theorem cw17 : xwd (pWp 17).1 = some (.code (pY 17) (pZ 17) (pM 17).2.2 (pM 17).2.1) := by rfl
set_option maxRecDepth 100000 in
theorem cw18 : xwd (pWp 18).1 = some (.code (pY 18) (pZ 18) (pM 18).2.2 (pM 18).2.1) := by rfl
set_option maxRecDepth 100000 in
theorem cw19 : xwd (pWp 19).1 = some (.code (pY 19) (pZ 19) (pM 19).2.2 (pM 19).2.1) := by rfl
set_option maxRecDepth 100000 in
theorem cw20 : xwd (pWp 20).1 = some (.code (pY 20) (pZ 20) (pM 20).2.2 (pM 20).2.1) := by rfl
set_option maxRecDepth 100000 in
theorem cw21 : xwd (pWp 21).1 = some (.code (pY 21) (pZ 21) (pM 21).2.2 (pM 21).2.1) := by rfl
set_option maxRecDepth 100000 in
theorem cw22 : xwd (pWp 22).1 = some (.code (pY 22) (pZ 22) (pM 22).2.2 (pM 22).2.1) := by rfl
set_option maxRecDepth 100000 in
theorem cw23 : xwd (pWp 23).1 = some (.code (pY 23) (pZ 23) (pM 23).2.2 (pM 23).2.1) := by rfl
set_option maxRecDepth 100000 in
theorem cw24 : xwd (pWp 24).1 = some (.code (pY 24) (pZ 24) (pM 24).2.2 (pM 24).2.1) := by rfl
set_option maxRecDepth 100000 in
theorem cw25 : xwd (pWp 25).1 = some (.code (pY 25) (pZ 25) (pM 25).2.2 (pM 25).2.1) := by rfl
set_option maxRecDepth 100000 in
theorem cw26 : xwd (pWp 26).1 = some (.code (pY 26) (pZ 26) (pM 26).2.2 (pM 26).2.1) := by rfl
set_option maxRecDepth 100000 in
theorem cw27 : xwd (pWp 27).1 = some (.code (pY 27) (pZ 27) (pM 27).2.2 (pM 27).2.1) := by rfl
set_option maxRecDepth 100000 in
theorem cw28 : xwd (pWp 28).1 = some (.code (pY 28) (pZ 28) (pM 28).2.2 (pM 28).2.1) := by rfl
set_option maxRecDepth 100000 in
theorem cw29 : xwd (pWp 29).1 = some (.code (pY 29) (pZ 29) (pM 29).2.2 (pM 29).2.1) := by rfl
set_option maxRecDepth 100000 in
theorem cw30 : xwd (pWp 30).1 = some (.code (pY 30) (pZ 30) (pM 30).2.2 (pM 30).2.1) := by rfl
set_option maxRecDepth 100000 in
theorem cw31 : xwd (pWp 31).1 = some (.code (pY 31) (pZ 31) (pM 31).2.2 (pM 31).2.1) := by rfl
set_option maxRecDepth 100000 in
theorem cw32 : xwd (pWp 32).1 = some (.code (pY 32) (pZ 32) (pM 32).2.2 (pM 32).2.1) := by rfl
set_option maxRecDepth 100000 in
theorem cw33 : xwd (pWp 33).1 = some (.code (pY 33) (pZ 33) (pM 33).2.2 (pM 33).2.1) := by rfl
set_option maxRecDepth 100000 in
theorem cw34 : xwd (pWp 34).1 = some (.code (pY 34) (pZ 34) (pM 34).2.2 (pM 34).2.1) := by rfl
set_option maxRecDepth 100000 in
theorem cw35 : xwd (pWp 35).1 = some (.code (pY 35) (pZ 35) (pM 35).2.2 (pM 35).2.1) := by rfl
set_option maxRecDepth 100000 in
theorem cw36 : xwd (pWp 36).1 = some (.code (pY 36) (pZ 36) (pM 36).2.2 (pM 36).2.1) := by rfl
set_option maxRecDepth 100000 in
theorem cw37 : xwd (pWp 37).1 = some (.code (pY 37) (pZ 37) (pM 37).2.2 (pM 37).2.1) := by rfl
set_option maxRecDepth 100000 in
theorem cw38 : xwd (pWp 38).1 = some (.code (pY 38) (pZ 38) (pM 38).2.2 (pM 38).2.1) := by rfl
set_option maxRecDepth 100000 in
theorem cw39 : xwd (pWp 39).1 = some (.code (pY 39) (pZ 39) (pM 39).2.2 (pM 39).2.1) := by rfl
set_option maxRecDepth 100000 in
theorem cw40 : xwd (pWp 40).1 = some (.code (pY 40) (pZ 40) (pM 40).2.2 (pM 40).2.1) := by rfl
set_option maxRecDepth 100000 in
theorem cw41 : xwd (pWp 41).1 = some (.code (pY 41) (pZ 41) (pM 41).2.2 (pM 41).2.1) := by rfl
set_option maxRecDepth 100000 in
theorem cw42 : xwd (pWp 42).1 = some (.code (pY 42) (pZ 42) (pM 42).2.2 (pM 42).2.1) := by rfl
set_option maxRecDepth 100000 in
theorem cw43 : xwd (pWp 43).1 = some (.code (pY 43) (pZ 43) (pM 43).2.2 (pM 43).2.1) := by rfl
set_option maxRecDepth 100000 in
theorem cw44 : xwd (pWp 44).1 = some (.code (pY 44) (pZ 44) (pM 44).2.2 (pM 44).2.1) := by rfl
set_option maxRecDepth 100000 in
theorem cw45 : xwd (pWp 45).1 = some (.code (pY 45) (pZ 45) (pM 45).2.2 (pM 45).2.1) := by rfl
set_option maxRecDepth 100000 in
theorem cw46 : xwd (pWp 46).1 = some (.code (pY 46) (pZ 46) (pM 46).2.2 (pM 46).2.1) := by rfl
set_option maxRecDepth 100000 in
theorem cw47 : xwd (pWp 47).1 = some (.code (pY 47) (pZ 47) (pM 47).2.2 (pM 47).2.1) := by rfl
set_option maxRecDepth 100000 in
theorem cw48 : xwd (pWp 48).1 = some (.code (pY 48) (pZ 48) (pM 48).2.2 (pM 48).2.1) := by rfl
set_option maxRecDepth 100000 in
theorem cw49 : xwd (pWp 49).1 = some (.code (pY 49) (pZ 49) (pM 49).2.2 (pM 49).2.1) := by rfl
set_option maxRecDepth 100000 in
theorem cw50 : xwd (pWp 50).1 = some (.code (pY 50) (pZ 50) (pM 50).2.2 (pM 50).2.1) := by rfl
set_option maxRecDepth 100000 in
theorem cw51 : xwd (pWp 51).1 = some (.code (pY 51) (pZ 51) (pM 51).2.2 (pM 51).2.1) := by rfl
set_option maxRecDepth 100000 in
theorem cw52 : xwd (pWp 52).1 = some (.code (pY 52) (pZ 52) (pM 52).2.2 (pM 52).2.1) := by rfl
set_option maxRecDepth 100000 in
theorem cw53 : xwd (pWp 53).1 = some (.code (pY 53) (pZ 53) (pM 53).2.2 (pM 53).2.1) := by rfl
set_option maxRecDepth 100000 in
theorem cw54 : xwd (pWp 54).1 = some (.code (pY 54) (pZ 54) (pM 54).2.2 (pM 54).2.1) := by rfl
set_option maxRecDepth 100000 in
theorem cw55 : xwd (pWp 55).1 = some (.code (pY 55) (pZ 55) (pM 55).2.2 (pM 55).2.1) := by rfl
set_option maxRecDepth 100000 in
theorem cw56 : xwd (pWp 56).1 = some (.code (pY 56) (pZ 56) (pM 56).2.2 (pM 56).2.1) := by rfl
set_option maxRecDepth 100000 in
theorem cw57 : xwd (pWp 57).1 = some (.code (pY 57) (pZ 57) (pM 57).2.2 (pM 57).2.1) := by rfl
set_option maxRecDepth 100000 in
theorem cw58 : xwd (pWp 58).1 = some (.code (pY 58) (pZ 58) (pM 58).2.2 (pM 58).2.1) := by rfl
set_option maxRecDepth 100000 in
theorem cw59 : xwd (pWp 59).1 = some (.code (pY 59) (pZ 59) (pM 59).2.2 (pM 59).2.1) := by rfl
set_option maxRecDepth 100000 in
theorem cw60 : xwd (pWp 60).1 = some (.code (pY 60) (pZ 60) (pM 60).2.2 (pM 60).2.1) := by rfl
set_option maxRecDepth 100000 in
theorem cw61 : xwd (pWp 61).1 = some (.code (pY 61) (pZ 61) (pM 61).2.2 (pM 61).2.1) := by rfl
set_option maxRecDepth 100000 in
theorem cw62 : xwd (pWp 62).1 = some (.code (pY 62) (pZ 62) (pM 62).2.2 (pM 62).2.1) := by rfl
set_option maxRecDepth 100000 in
theorem cw63 : xwd (pWp 63).1 = some (.code (pY 63) (pZ 63) (pM 63).2.2 (pM 63).2.1) := by rfl
set_option maxRecDepth 100000 in
theorem cw64 : xwd (pWp 64).1 = some (.code (pY 64) (pZ 64) (pM 64).2.2 (pM 64).2.1) := by rfl
set_option maxRecDepth 100000 in
theorem cw65 : xwd (pWp 65).1 = some (.code (pY 65) (pZ 65) (pM 65).2.2 (pM 65).2.1) := by rfl
set_option maxRecDepth 100000 in
theorem cw66 : xwd (pWp 66).1 = some (.code (pY 66) (pZ 66) (pM 66).2.2 (pM 66).2.1) := by rfl
set_option maxRecDepth 100000 in
theorem cw67 : xwd (pWp 67).1 = some (.code (pY 67) (pZ 67) (pM 67).2.2 (pM 67).2.1) := by rfl
set_option maxRecDepth 100000 in
theorem cw68 : xwd (pWp 68).1 = some (.code (pY 68) (pZ 68) (pM 68).2.2 (pM 68).2.1) := by rfl
set_option maxRecDepth 100000 in
theorem cw69 : xwd (pWp 69).1 = some (.code (pY 69) (pZ 69) (pM 69).2.2 (pM 69).2.1) := by rfl
set_option maxRecDepth 100000 in
theorem cw70 : xwd (pWp 70).1 = some (.code (pY 70) (pZ 70) (pM 70).2.2 (pM 70).2.1) := by rfl
set_option maxRecDepth 100000 in
theorem cw71 : xwd (pWp 71).1 = some (.code (pY 71) (pZ 71) (pM 71).2.2 (pM 71).2.1) := by rfl
set_option maxRecDepth 100000 in
theorem cw72 : xwd (pWp 72).1 = some (.code (pY 72) (pZ 72) (pM 72).2.2 (pM 72).2.1) := by rfl
set_option maxRecDepth 100000 in
theorem cw73 : xwd (pWp 73).1 = some (.code (pY 73) (pZ 73) (pM 73).2.2 (pM 73).2.1) := by rfl
set_option maxRecDepth 100000 in
theorem cw74 : xwd (pWp 74).1 = some (.code (pY 74) (pZ 74) (pM 74).2.2 (pM 74).2.1) := by rfl
set_option maxRecDepth 100000 in
theorem cw75 : xwd (pWp 75).1 = some (.code (pY 75) (pZ 75) (pM 75).2.2 (pM 75).2.1) := by rfl
set_option maxRecDepth 100000 in
theorem cw76 : xwd (pWp 76).1 = some (.code (pY 76) (pZ 76) (pM 76).2.2 (pM 76).2.1) := by rfl
set_option maxRecDepth 100000 in
theorem cw77 : xwd (pWp 77).1 = some (.code (pY 77) (pZ 77) (pM 77).2.2 (pM 77).2.1) := by rfl
set_option maxRecDepth 100000 in
theorem cw78 : xwd (pWp 78).1 = some (.code (pY 78) (pZ 78) (pM 78).2.2 (pM 78).2.1) := by rfl
set_option maxRecDepth 100000 in
theorem cw79 : xwd (pWp 79).1 = some (.code (pY 79) (pZ 79) (pM 79).2.2 (pM 79).2.1) := by rfl
set_option maxRecDepth 100000 in
theorem cw80 : xwd (pWp 80).1 = some (.code (pY 80) (pZ 80) (pM 80).2.2 (pM 80).2.1) := by rfl
set_option maxRecDepth 100000 in
theorem cw81 : xwd (pWp 81).1 = some (.code (pY 81) (pZ 81) (pM 81).2.2 (pM 81).2.1) := by rfl
set_option maxRecDepth 100000 in
theorem cw82 : xwd (pWp 82).1 = some (.code (pY 82) (pZ 82) (pM 82).2.2 (pM 82).2.1) := by rfl
set_option maxRecDepth 100000 in
theorem cw83 : xwd (pWp 83).1 = some (.code (pY 83) (pZ 83) (pM 83).2.2 (pM 83).2.1) := by rfl
set_option maxRecDepth 100000 in
theorem cw84 : xwd (pWp 84).1 = some (.code (pY 84) (pZ 84) (pM 84).2.2 (pM 84).2.1) := by rfl
set_option maxRecDepth 100000 in
theorem cw85 : xwd (pWp 85).1 = some (.code (pY 85) (pZ 85) (pM 85).2.2 (pM 85).2.1) := by rfl
set_option maxRecDepth 100000 in
theorem cw86 : xwd (pWp 86).1 = some (.code (pY 86) (pZ 86) (pM 86).2.2 (pM 86).2.1) := by rfl
set_option maxRecDepth 100000 in
theorem cw87 : xwd (pWp 87).1 = some (.code (pY 87) (pZ 87) (pM 87).2.2 (pM 87).2.1) := by rfl
set_option maxRecDepth 100000 in
theorem cw88 : xwd (pWp 88).1 = some (.code (pY 88) (pZ 88) (pM 88).2.2 (pM 88).2.1) := by rfl
set_option maxRecDepth 100000 in
theorem cw89 : xwd (pWp 89).1 = some (.code (pY 89) (pZ 89) (pM 89).2.2 (pM 89).2.1) := by rfl
set_option maxRecDepth 100000 in
theorem cw90 : xwd (pWp 90).1 = some (.code (pY 90) (pZ 90) (pM 90).2.2 (pM 90).2.1) := by rfl
set_option maxRecDepth 100000 in
theorem cw91 : xwd (pWp 91).1 = some (.code (pY 91) (pZ 91) (pM 91).2.2 (pM 91).2.1) := by rfl
set_option maxRecDepth 100000 in
theorem cw92 : xwd (pWp 92).1 = some (.code (pY 92) (pZ 92) (pM 92).2.2 (pM 92).2.1) := by rfl
set_option maxRecDepth 100000 in
theorem cw93 : xwd (pWp 93).1 = some (.code (pY 93) (pZ 93) (pM 93).2.2 (pM 93).2.1) := by rfl
set_option maxRecDepth 100000 in
theorem cw94 : xwd (pWp 94).1 = some (.code (pY 94) (pZ 94) (pM 94).2.2 (pM 94).2.1) := by rfl
set_option maxRecDepth 100000 in
theorem cw95 : xwd (pWp 95).1 = some (.code (pY 95) (pZ 95) (pM 95).2.2 (pM 95).2.1) := by rfl
set_option maxRecDepth 100000 in
theorem cw96 : xwd (pWp 96).1 = some (.code (pY 96) (pZ 96) (pM 96).2.2 (pM 96).2.1) := by rfl
set_option maxRecDepth 100000 in
theorem cw97 : xwd (pWp 97).1 = some (.code (pY 97) (pZ 97) (pM 97).2.2 (pM 97).2.1) := by rfl
set_option maxRecDepth 100000 in
theorem cw98 : xwd (pWp 98).1 = some (.code (pY 98) (pZ 98) (pM 98).2.2 (pM 98).2.1) := by rfl
set_option maxRecDepth 100000 in
theorem cw99 : xwd (pWp 99).1 = some (.code (pY 99) (pZ 99) (pM 99).2.2 (pM 99).2.1) := by rfl
set_option maxRecDepth 100000 in
theorem cw100 : xwd (pWp 100).1 = some (.code (pY 100) (pZ 100) (pM 100).2.2 (pM 100).2.1) := by rfl
set_option maxRecDepth 100000 in
theorem cw101 : xwd (pWp 101).1 = some (.code (pY 101) (pZ 101) (pM 101).2.2 (pM 101).2.1) := by rfl
set_option maxRecDepth 100000 in
theorem cw102 : xwd (pWp 102).1 = some (.code (pY 102) (pZ 102) (pM 102).2.2 (pM 102).2.1) := by rfl
set_option maxRecDepth 100000 in
theorem cw103 : xwd (pWp 103).1 = some (.code (pY 103) (pZ 103) (pM 103).2.2 (pM 103).2.1) := by rfl
set_option maxRecDepth 100000 in
theorem cw104 : xwd (pWp 104).1 = some (.code (pY 104) (pZ 104) (pM 104).2.2 (pM 104).2.1) := by rfl
set_option maxRecDepth 100000 in
theorem cw105 : xwd (pWp 105).1 = some (.code (pY 105) (pZ 105) (pM 105).2.2 (pM 105).2.1) := by rfl
set_option maxRecDepth 100000 in
theorem cw106 : xwd (pWp 106).1 = some (.code (pY 106) (pZ 106) (pM 106).2.2 (pM 106).2.1) := by rfl
set_option maxRecDepth 100000 in
theorem cw107 : xwd (pWp 107).1 = some (.code (pY 107) (pZ 107) (pM 107).2.2 (pM 107).2.1) := by rfl
set_option maxRecDepth 100000 in
theorem cw108 : xwd (pWp 108).1 = some (.code (pY 108) (pZ 108) (pM 108).2.2 (pM 108).2.1) := by rfl
set_option maxRecDepth 100000 in
theorem cw109 : xwd (pWp 109).1 = some (.code (pY 109) (pZ 109) (pM 109).2.2 (pM 109).2.1) := by rfl
set_option maxRecDepth 100000 in
theorem cw110 : xwd (pWp 110).1 = some (.code (pY 110) (pZ 110) (pM 110).2.2 (pM 110).2.1) := by rfl
set_option maxRecDepth 100000 in
theorem cw111 : xwd (pWp 111).1 = some (.code (pY 111) (pZ 111) (pM 111).2.2 (pM 111).2.1) := by rfl
set_option maxRecDepth 100000 in
theorem cw112 : xwd (pWp 112).1 = some (.code (pY 112) (pZ 112) (pM 112).2.2 (pM 112).2.1) := by rfl
set_option maxRecDepth 100000 in
theorem cw113 : xwd (pWp 113).1 = some (.code (pY 113) (pZ 113) (pM 113).2.2 (pM 113).2.1) := by rfl
set_option maxRecDepth 100000 in
theorem cw114 : xwd (pWp 114).1 = some (.code (pY 114) (pZ 114) (pM 114).2.2 (pM 114).2.1) := by rfl
set_option maxRecDepth 100000 in
theorem cw115 : xwd (pWp 115).1 = some (.code (pY 115) (pZ 115) (pM 115).2.2 (pM 115).2.1) := by rfl
set_option maxRecDepth 100000 in
theorem cw116 : xwd (pWp 116).1 = some (.code (pY 116) (pZ 116) (pM 116).2.2 (pM 116).2.1) := by rfl
set_option maxRecDepth 100000 in
theorem cw117 : xwd (pWp 117).1 = some (.code (pY 117) (pZ 117) (pM 117).2.2 (pM 117).2.1) := by rfl
set_option maxRecDepth 100000 in
theorem cw118 : xwd (pWp 118).1 = some (.code (pY 118) (pZ 118) (pM 118).2.2 (pM 118).2.1) := by rfl
set_option maxRecDepth 100000 in
theorem cw119 : xwd (pWp 119).1 = some (.code (pY 119) (pZ 119) (pM 119).2.2 (pM 119).2.1) := by rfl
set_option maxRecDepth 100000 in
theorem cw120 : xwd (pWp 120).1 = some (.code (pY 120) (pZ 120) (pM 120).2.2 (pM 120).2.1) := by rfl
set_option maxRecDepth 100000 in
theorem cw121 : xwd (pWp 121).1 = some (.code (pY 121) (pZ 121) (pM 121).2.2 (pM 121).2.1) := by rfl
set_option maxRecDepth 100000 in
theorem cw122 : xwd (pWp 122).1 = some (.code (pY 122) (pZ 122) (pM 122).2.2 (pM 122).2.1) := by rfl
set_option maxRecDepth 100000 in
theorem cw123 : xwd (pWp 123).1 = some (.code (pY 123) (pZ 123) (pM 123).2.2 (pM 123).2.1) := by rfl
set_option maxRecDepth 100000 in
theorem cw124 : xwd (pWp 124).1 = some (.code (pY 124) (pZ 124) (pM 124).2.2 (pM 124).2.1) := by rfl
set_option maxRecDepth 100000 in
theorem cw125 : xwd (pWp 125).1 = some (.code (pY 125) (pZ 125) (pM 125).2.2 (pM 125).2.1) := by rfl
set_option maxRecDepth 100000 in
theorem cw126 : xwd (pWp 126).1 = some (.code (pY 126) (pZ 126) (pM 126).2.2 (pM 126).2.1) := by rfl
set_option maxRecDepth 100000 in
theorem cw127 : xwd (pWp 127).1 = some (.code (pY 127) (pZ 127) (pM 127).2.2 (pM 127).2.1) := by rfl
set_option maxRecDepth 100000 in
theorem cw128 : xwd (pWp 128).1 = some (.code (pY 128) (pZ 128) (pM 128).2.2 (pM 128).2.1) := by rfl
set_option maxRecDepth 100000 in
theorem cw129 : xwd (pWp 129).1 = some (.code (pY 129) (pZ 129) (pM 129).2.2 (pM 129).2.1) := by rfl
set_option maxRecDepth 100000 in
theorem cw130 : xwd (pWp 130).1 = some (.code (pY 130) (pZ 130) (pM 130).2.2 (pM 130).2.1) := by rfl
set_option maxRecDepth 100000 in
theorem cw131 : xwd (pWp 131).1 = some (.code (pY 131) (pZ 131) (pM 131).2.2 (pM 131).2.1) := by rfl
set_option maxRecDepth 100000 in
theorem cw132 : xwd (pWp 132).1 = some (.code (pY 132) (pZ 132) (pM 132).2.2 (pM 132).2.1) := by rfl
set_option maxRecDepth 100000 in
theorem cw133 : xwd (pWp 133).1 = some (.code (pY 133) (pZ 133) (pM 133).2.2 (pM 133).2.1) := by rfl
set_option maxRecDepth 100000 in
theorem cw134 : xwd (pWp 134).1 = some (.code (pY 134) (pZ 134) (pM 134).2.2 (pM 134).2.1) := by rfl
set_option maxRecDepth 100000 in
theorem cw135 : xwd (pWp 135).1 = some (.code (pY 135) (pZ 135) (pM 135).2.2 (pM 135).2.1) := by rfl
set_option maxRecDepth 100000 in
theorem cw136 : xwd (pWp 136).1 = some (.code (pY 136) (pZ 136) (pM 136).2.2 (pM 136).2.1) := by rfl
set_option maxRecDepth 100000 in
theorem cw137 : xwd (pWp 137).1 = some (.code (pY 137) (pZ 137) (pM 137).2.2 (pM 137).2.1) := by rfl
set_option maxRecDepth 100000 in
theorem cw138 : xwd (pWp 138).1 = some (.code (pY 138) (pZ 138) (pM 138).2.2 (pM 138).2.1) := by rfl
set_option maxRecDepth 100000 in
theorem cw139 : xwd (pWp 139).1 = some (.code (pY 139) (pZ 139) (pM 139).2.2 (pM 139).2.1) := by rfl
set_option maxRecDepth 100000 in
theorem cw140 : xwd (pWp 140).1 = some (.code (pY 140) (pZ 140) (pM 140).2.2 (pM 140).2.1) := by rfl
set_option maxRecDepth 100000 in
theorem cw141 : xwd (pWp 141).1 = some (.code (pY 141) (pZ 141) (pM 141).2.2 (pM 141).2.1) := by rfl
set_option maxRecDepth 100000 in
theorem cw142 : xwd (pWp 142).1 = some (.code (pY 142) (pZ 142) (pM 142).2.2 (pM 142).2.1) := by rfl
set_option maxRecDepth 100000 in
theorem cw143 : xwd (pWp 143).1 = some (.code (pY 143) (pZ 143) (pM 143).2.2 (pM 143).2.1) := by rfl
set_option maxRecDepth 100000 in
theorem cw144 : xwd (pWp 144).1 = some (.code (pY 144) (pZ 144) (pM 144).2.2 (pM 144).2.1) := by rfl
set_option maxRecDepth 100000 in
theorem cw145 : xwd (pWp 145).1 = some (.code (pY 145) (pZ 145) (pM 145).2.2 (pM 145).2.1) := by rfl
set_option maxRecDepth 100000 in
theorem cw146 : xwd (pWp 146).1 = some (.code (pY 146) (pZ 146) (pM 146).2.2 (pM 146).2.1) := by rfl
set_option maxRecDepth 100000 in
theorem cw147 : xwd (pWp 147).1 = some (.code (pY 147) (pZ 147) (pM 147).2.2 (pM 147).2.1) := by rfl
set_option maxRecDepth 100000 in
theorem cw148 : xwd (pWp 148).1 = some (.code (pY 148) (pZ 148) (pM 148).2.2 (pM 148).2.1) := by rfl
set_option maxRecDepth 100000 in
theorem cw149 : xwd (pWp 149).1 = some (.code (pY 149) (pZ 149) (pM 149).2.2 (pM 149).2.1) := by rfl
set_option maxRecDepth 100000 in
theorem cw150 : xwd (pWp 150).1 = some (.code (pY 150) (pZ 150) (pM 150).2.2 (pM 150).2.1) := by rfl
set_option maxRecDepth 100000 in
theorem cw151 : xwd (pWp 151).1 = some (.code (pY 151) (pZ 151) (pM 151).2.2 (pM 151).2.1) := by rfl
set_option maxRecDepth 100000 in
theorem cw152 : xwd (pWp 152).1 = some (.code (pY 152) (pZ 152) (pM 152).2.2 (pM 152).2.1) := by rfl
set_option maxRecDepth 100000 in
theorem cw153 : xwd (pWp 153).1 = some (.code (pY 153) (pZ 153) (pM 153).2.2 (pM 153).2.1) := by rfl
set_option maxRecDepth 100000 in
theorem cw154 : xwd (pWp 154).1 = some (.code (pY 154) (pZ 154) (pM 154).2.2 (pM 154).2.1) := by rfl
set_option maxRecDepth 100000 in
theorem cw155 : xwd (pWp 155).1 = some (.code (pY 155) (pZ 155) (pM 155).2.2 (pM 155).2.1) := by rfl
set_option maxRecDepth 100000 in
theorem cw156 : xwd (pWp 156).1 = some (.code (pY 156) (pZ 156) (pM 156).2.2 (pM 156).2.1) := by rfl
set_option maxRecDepth 100000 in
theorem cw157 : xwd (pWp 157).1 = some (.code (pY 157) (pZ 157) (pM 157).2.2 (pM 157).2.1) := by rfl
set_option maxRecDepth 100000 in
theorem cw158 : xwd (pWp 158).1 = some (.code (pY 158) (pZ 158) (pM 158).2.2 (pM 158).2.1) := by rfl
set_option maxRecDepth 100000 in
theorem cw159 : xwd (pWp 159).1 = some (.code (pY 159) (pZ 159) (pM 159).2.2 (pM 159).2.1) := by rfl
set_option maxRecDepth 100000 in
theorem cw160 : xwd (pWp 160).1 = some (.code (pY 160) (pZ 160) (pM 160).2.2 (pM 160).2.1) := by rfl
set_option maxRecDepth 100000 in
theorem cw161 : xwd (pWp 161).1 = some (.code (pY 161) (pZ 161) (pM 161).2.2 (pM 161).2.1) := by rfl
set_option maxRecDepth 100000 in
theorem cw162 : xwd (pWp 162).1 = some (.code (pY 162) (pZ 162) (pM 162).2.2 (pM 162).2.1) := by rfl
set_option maxRecDepth 100000 in
theorem cw163 : xwd (pWp 163).1 = some (.code (pY 163) (pZ 163) (pM 163).2.2 (pM 163).2.1) := by rfl
set_option maxRecDepth 100000 in
theorem cw164 : xwd (pWp 164).1 = some (.code (pY 164) (pZ 164) (pM 164).2.2 (pM 164).2.1) := by rfl
set_option maxRecDepth 100000 in
theorem cw165 : xwd (pWp 165).1 = some (.code (pY 165) (pZ 165) (pM 165).2.2 (pM 165).2.1) := by rfl
set_option maxRecDepth 100000 in
theorem cw166 : xwd (pWp 166).1 = some (.code (pY 166) (pZ 166) (pM 166).2.2 (pM 166).2.1) := by rfl
set_option maxRecDepth 100000 in
theorem cw167 : xwd (pWp 167).1 = some (.code (pY 167) (pZ 167) (pM 167).2.2 (pM 167).2.1) := by rfl
set_option maxRecDepth 100000 in
theorem cw168 : xwd (pWp 168).1 = some (.code (pY 168) (pZ 168) (pM 168).2.2 (pM 168).2.1) := by rfl
set_option maxRecDepth 100000 in
theorem cw169 : xwd (pWp 169).1 = some (.code (pY 169) (pZ 169) (pM 169).2.2 (pM 169).2.1) := by rfl
set_option maxRecDepth 100000 in
theorem cw170 : xwd (pWp 170).1 = some (.code (pY 170) (pZ 170) (pM 170).2.2 (pM 170).2.1) := by rfl
set_option maxRecDepth 100000 in
theorem cw171 : xwd (pWp 171).1 = some (.code (pY 171) (pZ 171) (pM 171).2.2 (pM 171).2.1) := by rfl
set_option maxRecDepth 100000 in
theorem cw172 : xwd (pWp 172).1 = some (.code (pY 172) (pZ 172) (pM 172).2.2 (pM 172).2.1) := by rfl
set_option maxRecDepth 100000 in
theorem cw173 : xwd (pWp 173).1 = some (.code (pY 173) (pZ 173) (pM 173).2.2 (pM 173).2.1) := by rfl
set_option maxRecDepth 100000 in
theorem cw174 : xwd (pWp 174).1 = some (.code (pY 174) (pZ 174) (pM 174).2.2 (pM 174).2.1) := by rfl
set_option maxRecDepth 100000 in
theorem cw175 : xwd (pWp 175).1 = some (.code (pY 175) (pZ 175) (pM 175).2.2 (pM 175).2.1) := by rfl
set_option maxRecDepth 100000 in
theorem cw176 : xwd (pWp 176).1 = some (.code (pY 176) (pZ 176) (pM 176).2.2 (pM 176).2.1) := by rfl
set_option maxRecDepth 100000 in
theorem cw177 : xwd (pWp 177).1 = some (.code (pY 177) (pZ 177) (pM 177).2.2 (pM 177).2.1) := by rfl
set_option maxRecDepth 100000 in
theorem cw178 : xwd (pWp 178).1 = some (.code (pY 178) (pZ 178) (pM 178).2.2 (pM 178).2.1) := by rfl
set_option maxRecDepth 100000 in
theorem cw179 : xwd (pWp 179).1 = some (.code (pY 179) (pZ 179) (pM 179).2.2 (pM 179).2.1) := by rfl
set_option maxRecDepth 100000 in
theorem cw180 : xwd (pWp 180).1 = some (.code (pY 180) (pZ 180) (pM 180).2.2 (pM 180).2.1) := by rfl
set_option maxRecDepth 100000 in
theorem cw181 : xwd (pWp 181).1 = some (.code (pY 181) (pZ 181) (pM 181).2.2 (pM 181).2.1) := by rfl
set_option maxRecDepth 100000 in
theorem cw182 : xwd (pWp 182).1 = some (.code (pY 182) (pZ 182) (pM 182).2.2 (pM 182).2.1) := by rfl
set_option maxRecDepth 100000 in
theorem cw183 : xwd (pWp 183).1 = some (.code (pY 183) (pZ 183) (pM 183).2.2 (pM 183).2.1) := by rfl
set_option maxRecDepth 100000 in
theorem cw184 : xwd (pWp 184).1 = some (.code (pY 184) (pZ 184) (pM 184).2.2 (pM 184).2.1) := by rfl
set_option maxRecDepth 100000 in
theorem cw185 : xwd (pWp 185).1 = some (.code (pY 185) (pZ 185) (pM 185).2.2 (pM 185).2.1) := by rfl
set_option maxRecDepth 100000 in
theorem cw186 : xwd (pWp 186).1 = some (.code (pY 186) (pZ 186) (pM 186).2.2 (pM 186).2.1) := by rfl
set_option maxRecDepth 100000 in
theorem cw187 : xwd (pWp 187).1 = some (.code (pY 187) (pZ 187) (pM 187).2.2 (pM 187).2.1) := by rfl
set_option maxRecDepth 100000 in
theorem cw188 : xwd (pWp 188).1 = some (.code (pY 188) (pZ 188) (pM 188).2.2 (pM 188).2.1) := by rfl
set_option maxRecDepth 100000 in
theorem cw189 : xwd (pWp 189).1 = some (.code (pY 189) (pZ 189) (pM 189).2.2 (pM 189).2.1) := by rfl
set_option maxRecDepth 100000 in
theorem cw190 : xwd (pWp 190).1 = some (.code (pY 190) (pZ 190) (pM 190).2.2 (pM 190).2.1) := by rfl
set_option maxRecDepth 100000 in
theorem cw191 : xwd (pWp 191).1 = some (.code (pY 191) (pZ 191) (pM 191).2.2 (pM 191).2.1) := by rfl
set_option maxRecDepth 100000 in
theorem cw192 : xwd (pWp 192).1 = some (.code (pY 192) (pZ 192) (pM 192).2.2 (pM 192).2.1) := by rfl
set_option maxRecDepth 100000 in
theorem cw193 : xwd (pWp 193).1 = some (.code (pY 193) (pZ 193) (pM 193).2.2 (pM 193).2.1) := by rfl
set_option maxRecDepth 100000 in
theorem cw194 : xwd (pWp 194).1 = some (.code (pY 194) (pZ 194) (pM 194).2.2 (pM 194).2.1) := by rfl
set_option maxRecDepth 100000 in
theorem cw195 : xwd (pWp 195).1 = some (.code (pY 195) (pZ 195) (pM 195).2.2 (pM 195).2.1) := by rfl
set_option maxRecDepth 100000 in
theorem cw196 : xwd (pWp 196).1 = some (.code (pY 196) (pZ 196) (pM 196).2.2 (pM 196).2.1) := by rfl
set_option maxRecDepth 100000 in
theorem cw197 : xwd (pWp 197).1 = some (.code (pY 197) (pZ 197) (pM 197).2.2 (pM 197).2.1) := by rfl
set_option maxRecDepth 100000 in
theorem cw198 : xwd (pWp 198).1 = some (.code (pY 198) (pZ 198) (pM 198).2.2 (pM 198).2.1) := by rfl
set_option maxRecDepth 100000 in
theorem cw199 : xwd (pWp 199).1 = some (.code (pY 199) (pZ 199) (pM 199).2.2 (pM 199).2.1) := by rfl
set_option maxRecDepth 100000 in
theorem cw200 : xwd (pWp 200).1 = some (.code (pY 200) (pZ 200) (pM 200).2.2 (pM 200).2.1) := by rfl
set_option maxRecDepth 100000 in
theorem cw201 : xwd (pWp 201).1 = some (.code (pY 201) (pZ 201) (pM 201).2.2 (pM 201).2.1) := by rfl
set_option maxRecDepth 100000 in
theorem cw202 : xwd (pWp 202).1 = some (.code (pY 202) (pZ 202) (pM 202).2.2 (pM 202).2.1) := by rfl
set_option maxRecDepth 100000 in
theorem cw203 : xwd (pWp 203).1 = some (.code (pY 203) (pZ 203) (pM 203).2.2 (pM 203).2.1) := by rfl
set_option maxRecDepth 100000 in
theorem cw204 : xwd (pWp 204).1 = some (.code (pY 204) (pZ 204) (pM 204).2.2 (pM 204).2.1) := by rfl
set_option maxRecDepth 100000 in
theorem cw205 : xwd (pWp 205).1 = some (.code (pY 205) (pZ 205) (pM 205).2.2 (pM 205).2.1) := by rfl
set_option maxRecDepth 100000 in
theorem cw206 : xwd (pWp 206).1 = some (.code (pY 206) (pZ 206) (pM 206).2.2 (pM 206).2.1) := by rfl
set_option maxRecDepth 100000 in
theorem cw207 : xwd (pWp 207).1 = some (.code (pY 207) (pZ 207) (pM 207).2.2 (pM 207).2.1) := by rfl
set_option maxRecDepth 100000 in
theorem cw208 : xwd (pWp 208).1 = some (.code (pY 208) (pZ 208) (pM 208).2.2 (pM 208).2.1) := by rfl
set_option maxRecDepth 100000 in
theorem cw209 : xwd (pWp 209).1 = some (.code (pY 209) (pZ 209) (pM 209).2.2 (pM 209).2.1) := by rfl
set_option maxRecDepth 100000 in
theorem cw210 : xwd (pWp 210).1 = some (.code (pY 210) (pZ 210) (pM 210).2.2 (pM 210).2.1) := by rfl
set_option maxRecDepth 100000 in
theorem cw211 : xwd (pWp 211).1 = some (.code (pY 211) (pZ 211) (pM 211).2.2 (pM 211).2.1) := by rfl
set_option maxRecDepth 100000 in
theorem cw212 : xwd (pWp 212).1 = some (.code (pY 212) (pZ 212) (pM 212).2.2 (pM 212).2.1) := by rfl
set_option maxRecDepth 100000 in
theorem cw213 : xwd (pWp 213).1 = some (.code (pY 213) (pZ 213) (pM 213).2.2 (pM 213).2.1) := by rfl
set_option maxRecDepth 100000 in
theorem cw214 : xwd (pWp 214).1 = some (.code (pY 214) (pZ 214) (pM 214).2.2 (pM 214).2.1) := by rfl
set_option maxRecDepth 100000 in
theorem cw215 : xwd (pWp 215).1 = some (.code (pY 215) (pZ 215) (pM 215).2.2 (pM 215).2.1) := by rfl
set_option maxRecDepth 100000 in
theorem cw216 : xwd (pWp 216).1 = some (.code (pY 216) (pZ 216) (pM 216).2.2 (pM 216).2.1) := by rfl
set_option maxRecDepth 100000 in
theorem cw217 : xwd (pWp 217).1 = some (.code (pY 217) (pZ 217) (pM 217).2.2 (pM 217).2.1) := by rfl
set_option maxRecDepth 100000 in
theorem cw218 : xwd (pWp 218).1 = some (.code (pY 218) (pZ 218) (pM 218).2.2 (pM 218).2.1) := by rfl
set_option maxRecDepth 100000 in
theorem cw219 : xwd (pWp 219).1 = some (.code (pY 219) (pZ 219) (pM 219).2.2 (pM 219).2.1) := by rfl
set_option maxRecDepth 100000 in
theorem cw220 : xwd (pWp 220).1 = some (.code (pY 220) (pZ 220) (pM 220).2.2 (pM 220).2.1) := by rfl
set_option maxRecDepth 100000 in
theorem cw221 : xwd (pWp 221).1 = some (.code (pY 221) (pZ 221) (pM 221).2.2 (pM 221).2.1) := by rfl
set_option maxRecDepth 100000 in
theorem cw222 : xwd (pWp 222).1 = some (.code (pY 222) (pZ 222) (pM 222).2.2 (pM 222).2.1) := by rfl
set_option maxRecDepth 100000 in
theorem cw223 : xwd (pWp 223).1 = some (.code (pY 223) (pZ 223) (pM 223).2.2 (pM 223).2.1) := by rfl
set_option maxRecDepth 100000 in
theorem cw224 : xwd (pWp 224).1 = some (.code (pY 224) (pZ 224) (pM 224).2.2 (pM 224).2.1) := by rfl
set_option maxRecDepth 100000 in
theorem cw225 : xwd (pWp 225).1 = some (.code (pY 225) (pZ 225) (pM 225).2.2 (pM 225).2.1) := by rfl
set_option maxRecDepth 100000 in
theorem cw226 : xwd (pWp 226).1 = some (.code (pY 226) (pZ 226) (pM 226).2.2 (pM 226).2.1) := by rfl
set_option maxRecDepth 100000 in
theorem cw227 : xwd (pWp 227).1 = some (.code (pY 227) (pZ 227) (pM 227).2.2 (pM 227).2.1) := by rfl
set_option maxRecDepth 100000 in
theorem cw228 : xwd (pWp 228).1 = some (.code (pY 228) (pZ 228) (pM 228).2.2 (pM 228).2.1) := by rfl
set_option maxRecDepth 100000 in
theorem cw229 : xwd (pWp 229).1 = some (.code (pY 229) (pZ 229) (pM 229).2.2 (pM 229).2.1) := by rfl
set_option maxRecDepth 100000 in
theorem cw230 : xwd (pWp 230).1 = some (.code (pY 230) (pZ 230) (pM 230).2.2 (pM 230).2.1) := by rfl
set_option maxRecDepth 100000 in
theorem cw231 : xwd (pWp 231).1 = some (.code (pY 231) (pZ 231) (pM 231).2.2 (pM 231).2.1) := by rfl
set_option maxRecDepth 100000 in
theorem cw232 : xwd (pWp 232).1 = some (.code (pY 232) (pZ 232) (pM 232).2.2 (pM 232).2.1) := by rfl
set_option maxRecDepth 100000 in
theorem cw233 : xwd (pWp 233).1 = some (.code (pY 233) (pZ 233) (pM 233).2.2 (pM 233).2.1) := by rfl
set_option maxRecDepth 100000 in
theorem cw234 : xwd (pWp 234).1 = some (.code (pY 234) (pZ 234) (pM 234).2.2 (pM 234).2.1) := by rfl
set_option maxRecDepth 100000 in
theorem cw235 : xwd (pWp 235).1 = some (.code (pY 235) (pZ 235) (pM 235).2.2 (pM 235).2.1) := by rfl
set_option maxRecDepth 100000 in
theorem cw236 : xwd (pWp 236).1 = some (.code (pY 236) (pZ 236) (pM 236).2.2 (pM 236).2.1) := by rfl
set_option maxRecDepth 100000 in
theorem cw237 : xwd (pWp 237).1 = some (.code (pY 237) (pZ 237) (pM 237).2.2 (pM 237).2.1) := by rfl
set_option maxRecDepth 100000 in
theorem cw238 : xwd (pWp 238).1 = some (.code (pY 238) (pZ 238) (pM 238).2.2 (pM 238).2.1) := by rfl
set_option maxRecDepth 100000 in
theorem cw239 : xwd (pWp 239).1 = some (.code (pY 239) (pZ 239) (pM 239).2.2 (pM 239).2.1) := by rfl
set_option maxRecDepth 100000 in
theorem cw240 : xwd (pWp 240).1 = some (.code (pY 240) (pZ 240) (pM 240).2.2 (pM 240).2.1) := by rfl
set_option maxRecDepth 100000 in
theorem cw241 : xwd (pWp 241).1 = some (.code (pY 241) (pZ 241) (pM 241).2.2 (pM 241).2.1) := by rfl
set_option maxRecDepth 100000 in
theorem cw242 : xwd (pWp 242).1 = some (.code (pY 242) (pZ 242) (pM 242).2.2 (pM 242).2.1) := by rfl
set_option maxRecDepth 100000 in
theorem cw243 : xwd (pWp 243).1 = some (.code (pY 243) (pZ 243) (pM 243).2.2 (pM 243).2.1) := by rfl
set_option maxRecDepth 100000 in
theorem cw244 : xwd (pWp 244).1 = some (.code (pY 244) (pZ 244) (pM 244).2.2 (pM 244).2.1) := by rfl
set_option maxRecDepth 100000 in
theorem cw245 : xwd (pWp 245).1 = some (.code (pY 245) (pZ 245) (pM 245).2.2 (pM 245).2.1) := by rfl
set_option maxRecDepth 100000 in
theorem cw246 : xwd (pWp 246).1 = some (.code (pY 246) (pZ 246) (pM 246).2.2 (pM 246).2.1) := by rfl
set_option maxRecDepth 100000 in
theorem cw247 : xwd (pWp 247).1 = some (.code (pY 247) (pZ 247) (pM 247).2.2 (pM 247).2.1) := by rfl
set_option maxRecDepth 100000 in
theorem cw248 : xwd (pWp 248).1 = some (.code (pY 248) (pZ 248) (pM 248).2.2 (pM 248).2.1) := by rfl
set_option maxRecDepth 100000 in
theorem cw249 : xwd (pWp 249).1 = some (.code (pY 249) (pZ 249) (pM 249).2.2 (pM 249).2.1) := by rfl
set_option maxRecDepth 100000 in
theorem cw250 : xwd (pWp 250).1 = some (.code (pY 250) (pZ 250) (pM 250).2.2 (pM 250).2.1) := by rfl
set_option maxRecDepth 100000 in
theorem cw251 : xwd (pWp 251).1 = some (.code (pY 251) (pZ 251) (pM 251).2.2 (pM 251).2.1) := by rfl
set_option maxRecDepth 100000 in
theorem cw252 : xwd (pWp 252).1 = some (.code (pY 252) (pZ 252) (pM 252).2.2 (pM 252).2.1) := by rfl
set_option maxRecDepth 100000 in
theorem cw253 : xwd (pWp 253).1 = some (.code (pY 253) (pZ 253) (pM 253).2.2 (pM 253).2.1) := by rfl
set_option maxRecDepth 100000 in
theorem cw254 : xwd (pWp 254).1 = some (.code (pY 254) (pZ 254) (pM 254).2.2 (pM 254).2.1) := by rfl
set_option maxRecDepth 100000 in
theorem cw255 : xwd (pWp 255).1 = some (.code (pY 255) (pZ 255) (pM 255).2.2 (pM 255).2.1) := by rfl
set_option maxRecDepth 100000 in
theorem cw256 : xwd (pWp 256).1 = some (.code (pY 256) (pZ 256) (pM 256).2.2 (pM 256).2.1) := by rfl
set_option maxRecDepth 100000 in
theorem cw257 : xwd (pWp 257).1 = some (.code (pY 257) (pZ 257) (pM 257).2.2 (pM 257).2.1) := by rfl
set_option maxRecDepth 100000 in
theorem cw258 : xwd (pWp 258).1 = some (.code (pY 258) (pZ 258) (pM 258).2.2 (pM 258).2.1) := by rfl
set_option maxRecDepth 100000 in
theorem cw259 : xwd (pWp 259).1 = some (.code (pY 259) (pZ 259) (pM 259).2.2 (pM 259).2.1) := by rfl
set_option maxRecDepth 100000 in
theorem cw260 : xwd (pWp 260).1 = some (.code (pY 260) (pZ 260) (pM 260).2.2 (pM 260).2.1) := by rfl
set_option maxRecDepth 100000 in
theorem cw261 : xwd (pWp 261).1 = some (.code (pY 261) (pZ 261) (pM 261).2.2 (pM 261).2.1) := by rfl
set_option maxRecDepth 100000 in
theorem cw262 : xwd (pWp 262).1 = some (.code (pY 262) (pZ 262) (pM 262).2.2 (pM 262).2.1) := by rfl
set_option maxRecDepth 100000 in
theorem cw263 : xwd (pWp 263).1 = some (.code (pY 263) (pZ 263) (pM 263).2.2 (pM 263).2.1) := by rfl
set_option maxRecDepth 100000 in
theorem cw264 : xwd (pWp 264).1 = some (.code (pY 264) (pZ 264) (pM 264).2.2 (pM 264).2.1) := by rfl
set_option maxRecDepth 100000 in
theorem cw265 : xwd (pWp 265).1 = some (.code (pY 265) (pZ 265) (pM 265).2.2 (pM 265).2.1) := by rfl
set_option maxRecDepth 100000 in
theorem cw266 : xwd (pWp 266).1 = some (.code (pY 266) (pZ 266) (pM 266).2.2 (pM 266).2.1) := by rfl
set_option maxRecDepth 100000 in
theorem cw267 : xwd (pWp 267).1 = some (.code (pY 267) (pZ 267) (pM 267).2.2 (pM 267).2.1) := by rfl
set_option maxRecDepth 100000 in
theorem cw268 : xwd (pWp 268).1 = some (.code (pY 268) (pZ 268) (pM 268).2.2 (pM 268).2.1) := by rfl
set_option maxRecDepth 100000 in
theorem cw269 : xwd (pWp 269).1 = some (.code (pY 269) (pZ 269) (pM 269).2.2 (pM 269).2.1) := by rfl
set_option maxRecDepth 100000 in
theorem cw270 : xwd (pWp 270).1 = some (.code (pY 270) (pZ 270) (pM 270).2.2 (pM 270).2.1) := by rfl
set_option maxRecDepth 100000 in
theorem cw271 : xwd (pWp 271).1 = some (.code (pY 271) (pZ 271) (pM 271).2.2 (pM 271).2.1) := by rfl
set_option maxRecDepth 100000 in
theorem cw272 : xwd (pWp 272).1 = some (.code (pY 272) (pZ 272) (pM 272).2.2 (pM 272).2.1) := by rfl
set_option maxRecDepth 100000 in
theorem cw273 : xwd (pWp 273).1 = some (.code (pY 273) (pZ 273) (pM 273).2.2 (pM 273).2.1) := by rfl
set_option maxRecDepth 100000 in
theorem cw274 : xwd (pWp 274).1 = some (.code (pY 274) (pZ 274) (pM 274).2.2 (pM 274).2.1) := by rfl
set_option maxRecDepth 100000 in
theorem cw275 : xwd (pWp 275).1 = some (.code (pY 275) (pZ 275) (pM 275).2.2 (pM 275).2.1) := by rfl
set_option maxRecDepth 100000 in
theorem cw276 : xwd (pWp 276).1 = some (.code (pY 276) (pZ 276) (pM 276).2.2 (pM 276).2.1) := by rfl
set_option maxRecDepth 100000 in
theorem cw277 : xwd (pWp 277).1 = some (.code (pY 277) (pZ 277) (pM 277).2.2 (pM 277).2.1) := by rfl
set_option maxRecDepth 100000 in
theorem cw278 : xwd (pWp 278).1 = some (.code (pY 278) (pZ 278) (pM 278).2.2 (pM 278).2.1) := by rfl
set_option maxRecDepth 100000 in
theorem cw279 : xwd (pWp 279).1 = some (.code (pY 279) (pZ 279) (pM 279).2.2 (pM 279).2.1) := by rfl
set_option maxRecDepth 100000 in
theorem cw280 : xwd (pWp 280).1 = some (.code (pY 280) (pZ 280) (pM 280).2.2 (pM 280).2.1) := by rfl
set_option maxRecDepth 100000 in
theorem cw281 : xwd (pWp 281).1 = some (.code (pY 281) (pZ 281) (pM 281).2.2 (pM 281).2.1) := by rfl
set_option maxRecDepth 10000 in
theorem cwa_24 : ∀ m, m < 24 → (fun m => xwd (pWp m).1 = some (.code (pY m) (pZ m) (pM m).2.2 (pM m).2.1)) m := xallS (xallS (xallS (xallS (xallS (xallS (xallS (xallS (xallS (xallS (xallS (xallS (xallS (xallS (xallS (xallS (xallS (xallS (xallS (xallS (xallS (xallS (xallS (xallS (xall0) cw0) cw1) cw2) cw3) cw4) cw5) cw6) cw7) cw8) cw9) cw10) cw11) cw12) cw13) cw14) cw15) cw16) cw17) cw18) cw19) cw20) cw21) cw22) cw23
set_option maxRecDepth 10000 in
theorem cwa_48 : ∀ m, m < 48 → (fun m => xwd (pWp m).1 = some (.code (pY m) (pZ m) (pM m).2.2 (pM m).2.1)) m := xallS (xallS (xallS (xallS (xallS (xallS (xallS (xallS (xallS (xallS (xallS (xallS (xallS (xallS (xallS (xallS (xallS (xallS (xallS (xallS (xallS (xallS (xallS (xallS (cwa_24) cw24) cw25) cw26) cw27) cw28) cw29) cw30) cw31) cw32) cw33) cw34) cw35) cw36) cw37) cw38) cw39) cw40) cw41) cw42) cw43) cw44) cw45) cw46) cw47
set_option maxRecDepth 10000 in
theorem cwa_72 : ∀ m, m < 72 → (fun m => xwd (pWp m).1 = some (.code (pY m) (pZ m) (pM m).2.2 (pM m).2.1)) m := xallS (xallS (xallS (xallS (xallS (xallS (xallS (xallS (xallS (xallS (xallS (xallS (xallS (xallS (xallS (xallS (xallS (xallS (xallS (xallS (xallS (xallS (xallS (xallS (cwa_48) cw48) cw49) cw50) cw51) cw52) cw53) cw54) cw55) cw56) cw57) cw58) cw59) cw60) cw61) cw62) cw63) cw64) cw65) cw66) cw67) cw68) cw69) cw70) cw71
set_option maxRecDepth 10000 in
theorem cwa_96 : ∀ m, m < 96 → (fun m => xwd (pWp m).1 = some (.code (pY m) (pZ m) (pM m).2.2 (pM m).2.1)) m := xallS (xallS (xallS (xallS (xallS (xallS (xallS (xallS (xallS (xallS (xallS (xallS (xallS (xallS (xallS (xallS (xallS (xallS (xallS (xallS (xallS (xallS (xallS (xallS (cwa_72) cw72) cw73) cw74) cw75) cw76) cw77) cw78) cw79) cw80) cw81) cw82) cw83) cw84) cw85) cw86) cw87) cw88) cw89) cw90) cw91) cw92) cw93) cw94) cw95
set_option maxRecDepth 10000 in
theorem cwa_120 : ∀ m, m < 120 → (fun m => xwd (pWp m).1 = some (.code (pY m) (pZ m) (pM m).2.2 (pM m).2.1)) m := xallS (xallS (xallS (xallS (xallS (xallS (xallS (xallS (xallS (xallS (xallS (xallS (xallS (xallS (xallS (xallS (xallS (xallS (xallS (xallS (xallS (xallS (xallS (xallS (cwa_96) cw96) cw97) cw98) cw99) cw100) cw101) cw102) cw103) cw104) cw105) cw106) cw107) cw108) cw109) cw110) cw111) cw112) cw113) cw114) cw115) cw116) cw117) cw118) cw119
set_option maxRecDepth 10000 in
theorem cwa_144 : ∀ m, m < 144 → (fun m => xwd (pWp m).1 = some (.code (pY m) (pZ m) (pM m).2.2 (pM m).2.1)) m := xallS (xallS (xallS (xallS (xallS (xallS (xallS (xallS (xallS (xallS (xallS (xallS (xallS (xallS (xallS (xallS (xallS (xallS (xallS (xallS (xallS (xallS (xallS (xallS (cwa_120) cw120) cw121) cw122) cw123) cw124) cw125) cw126) cw127) cw128) cw129) cw130) cw131) cw132) cw133) cw134) cw135) cw136) cw137) cw138) cw139) cw140) cw141) cw142) cw143
set_option maxRecDepth 10000 in
theorem cwa_168 : ∀ m, m < 168 → (fun m => xwd (pWp m).1 = some (.code (pY m) (pZ m) (pM m).2.2 (pM m).2.1)) m := xallS (xallS (xallS (xallS (xallS (xallS (xallS (xallS (xallS (xallS (xallS (xallS (xallS (xallS (xallS (xallS (xallS (xallS (xallS (xallS (xallS (xallS (xallS (xallS (cwa_144) cw144) cw145) cw146) cw147) cw148) cw149) cw150) cw151) cw152) cw153) cw154) cw155) cw156) cw157) cw158) cw159) cw160) cw161) cw162) cw163) cw164) cw165) cw166) cw167
set_option maxRecDepth 10000 in
theorem cwa_192 : ∀ m, m < 192 → (fun m => xwd (pWp m).1 = some (.code (pY m) (pZ m) (pM m).2.2 (pM m).2.1)) m := xallS (xallS (xallS (xallS (xallS (xallS (xallS (xallS (xallS (xallS (xallS (xallS (xallS (xallS (xallS (xallS (xallS (xallS (xallS (xallS (xallS (xallS (xallS (xallS (cwa_168) cw168) cw169) cw170) cw171) cw172) cw173) cw174) cw175) cw176) cw177) cw178) cw179) cw180) cw181) cw182) cw183) cw184) cw185) cw186) cw187) cw188) cw189) cw190) cw191
set_option maxRecDepth 10000 in
theorem cwa_216 : ∀ m, m < 216 → (fun m => xwd (pWp m).1 = some (.code (pY m) (pZ m) (pM m).2.2 (pM m).2.1)) m := xallS (xallS (xallS (xallS (xallS (xallS (xallS (xallS (xallS (xallS (xallS (xallS (xallS (xallS (xallS (xallS (xallS (xallS (xallS (xallS (xallS (xallS (xallS (xallS (cwa_192) cw192) cw193) cw194) cw195) cw196) cw197) cw198) cw199) cw200) cw201) cw202) cw203) cw204) cw205) cw206) cw207) cw208) cw209) cw210) cw211) cw212) cw213) cw214) cw215
set_option maxRecDepth 10000 in
theorem cwa_240 : ∀ m, m < 240 → (fun m => xwd (pWp m).1 = some (.code (pY m) (pZ m) (pM m).2.2 (pM m).2.1)) m := xallS (xallS (xallS (xallS (xallS (xallS (xallS (xallS (xallS (xallS (xallS (xallS (xallS (xallS (xallS (xallS (xallS (xallS (xallS (xallS (xallS (xallS (xallS (xallS (cwa_216) cw216) cw217) cw218) cw219) cw220) cw221) cw222) cw223) cw224) cw225) cw226) cw227) cw228) cw229) cw230) cw231) cw232) cw233) cw234) cw235) cw236) cw237) cw238) cw239
set_option maxRecDepth 10000 in
theorem cwa_264 : ∀ m, m < 264 → (fun m => xwd (pWp m).1 = some (.code (pY m) (pZ m) (pM m).2.2 (pM m).2.1)) m := xallS (xallS (xallS (xallS (xallS (xallS (xallS (xallS (xallS (xallS (xallS (xallS (xallS (xallS (xallS (xallS (xallS (xallS (xallS (xallS (xallS (xallS (xallS (xallS (cwa_240) cw240) cw241) cw242) cw243) cw244) cw245) cw246) cw247) cw248) cw249) cw250) cw251) cw252) cw253) cw254) cw255) cw256) cw257) cw258) cw259) cw260) cw261) cw262) cw263
set_option maxRecDepth 10000 in
theorem cwa_282 : ∀ m, m < 282 → (fun m => xwd (pWp m).1 = some (.code (pY m) (pZ m) (pM m).2.2 (pM m).2.1)) m := xallS (xallS (xallS (xallS (xallS (xallS (xallS (xallS (xallS (xallS (xallS (xallS (xallS (xallS (xallS (xallS (xallS (xallS (cwa_264) cw264) cw265) cw266) cw267) cw268) cw269) cw270) cw271) cw272) cw273) cw274) cw275) cw276) cw277) cw278) cw279) cw280) cw281
