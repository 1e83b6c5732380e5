def MO (h : PzH) (mo : Nat) : Prop := pz_C h mo = 10 ∧ (pz_R h mo 0 = some (mo + 1) ∧ pz_C h (mo + 1) = 101 ∧ pz_L h (mo + 1) = 6000) ∧ (pz_R h mo 1 = some (mo + 2) ∧ pz_C h (mo + 2) = 101 ∧ pz_L h (mo + 2) = 6000) ∧ (pz_R h mo 4 = some (mo + 3) ∧ pz_C h (mo + 3) = 101 ∧ pz_L h (mo + 3) = 6100) ∧ (pz_R h mo 6 = some (mo + 4) ∧ pz_C h (mo + 4) = 100 ∧ pz_L h (mo + 4) = 80) ∧ (pz_R h mo 7 = some (mo + 5) ∧ pz_C h (mo + 5) = 100 ∧ pz_L h (mo + 5) = 5) ∧ (pz_R h mo 8 = some (mo + 6) ∧ pz_C h (mo + 6) = 101 ∧ pz_L h (mo + 6) = 20) ∧ (pz_R h mo 11 = some (mo + 7) ∧ pz_C h (mo + 7) = 100 ∧ pz_L h (mo + 7) = 8) ∧ (pz_R h mo 12 = some (mo + 8) ∧ pz_C h (mo + 8) = 100 ∧ pz_L h (mo + 8) = 8) ∧ (pz_R h mo 14 = some (mo + 9) ∧ pz_C h (mo + 9) = 101 ∧ pz_L h (mo + 9) = 41) ∧ (pz_R h mo 15 = some (mo + 10) ∧ pz_C h (mo + 10) = 100 ∧ pz_L h (mo + 10) = 8) ∧ (pz_R h mo 22 = some (mo + 11) ∧ pz_C h (mo + 11) = 100 ∧ pz_L h (mo + 11) = 16) ∧ (pz_R h mo 23 = some (mo + 12) ∧ pz_C h (mo + 12) = 100 ∧ pz_L h (mo + 12) = 16) ∧ (pz_R h mo 24 = some (mo + 13) ∧ pz_C h (mo + 13) = 101 ∧ pz_L h (mo + 13) = 1280) ∧ (pz_R h mo 25 = some (mo + 14) ∧ pz_C h (mo + 14) = 101 ∧ pz_L h (mo + 14) = 20) ∧ (pz_R h mo 26 = some (mo + 15) ∧ pz_C h (mo + 15) = 101 ∧ pz_L h (mo + 15) = 4096) ∧ (pz_R h mo 30 = some (mo + 16) ∧ pz_C h (mo + 16) = 100 ∧ pz_L h (mo + 16) = 16) ∧ (pz_R h mo 31 = some (mo + 17) ∧ pz_C h (mo + 17) = 100 ∧ pz_L h (mo + 17) = 16) ∧ (pz_R h mo 32 = some (mo + 18) ∧ pz_C h (mo + 18) = 102 ∧ pz_L h (mo + 18) = 5) ∧ (pz_R h mo 33 = some (mo + 19) ∧ pz_C h (mo + 19) = 101 ∧ pz_L h (mo + 19) = 16384) ∧ (pz_R h mo 34 = some (mo + 20) ∧ pz_C h (mo + 20) = 102 ∧ pz_L h (mo + 20) = 256) ∧ (pz_R h mo 35 = some (mo + 21) ∧ pz_C h (mo + 21) = 102 ∧ pz_L h (mo + 21) = 4096) ∧ (pz_R h mo 36 = some (mo + 22) ∧ pz_C h (mo + 22) = 100 ∧ pz_L h (mo + 22) = 20) ∧ (pz_R h mo 37 = some (mo + 23) ∧ pz_C h (mo + 23) = 102 ∧ pz_L h (mo + 23) = 25) ∧ (pz_R h mo 38 = some (mo + 24) ∧ pz_C h (mo + 24) = 102 ∧ pz_L h (mo + 24) = 25) ∧ (pz_R h mo 39 = some (mo + 25) ∧ pz_C h (mo + 25) = 102 ∧ pz_L h (mo + 25) = 25) ∧ (pz_R h mo 40 = some (mo + 26) ∧ pz_C h (mo + 26) = 102 ∧ pz_L h (mo + 26) = 25) ∧ (pz_R h mo 41 = some (mo + 27) ∧ pz_C h (mo + 27) = 102 ∧ pz_L h (mo + 27) = 25) ∧ (pz_R h mo 42 = some (mo + 28) ∧ pz_C h (mo + 28) = 102 ∧ pz_L h (mo + 28) = 25) ∧ (pz_R h mo 43 = some (mo + 29) ∧ pz_C h (mo + 29) = 102 ∧ pz_L h (mo + 29) = 25) ∧ (pz_R h mo 44 = some (mo + 30) ∧ pz_C h (mo + 30) = 102 ∧ pz_L h (mo + 30) = 1600) ∧ (pz_R h mo 45 = some (mo + 31) ∧ pz_C h (mo + 31) = 100 ∧ pz_L h (mo + 31) = 25) ∧ (pz_R h mo 46 = some (mo + 32) ∧ pz_C h (mo + 32) = 100 ∧ pz_L h (mo + 32) = 100) ∧ (pz_R h mo 47 = some (mo + 33) ∧ pz_C h (mo + 33) = 101 ∧ pz_L h (mo + 33) = 105000) ∧ (pz_R h mo 48 = some (mo + 34) ∧ pz_C h (mo + 34) = 100 ∧ pz_L h (mo + 34) = 25) ∧ (pz_R h mo 49 = some (mo + 35) ∧ pz_C h (mo + 35) = 101 ∧ pz_L h (mo + 35) = 80) ∧ (pz_R h mo 51 = some (mo + 36) ∧ pz_C h (mo + 36) = 101 ∧ pz_L h (mo + 36) = 20) ∧ (pz_R h mo 52 = some (mo + 37) ∧ pz_C h (mo + 37) = 101 ∧ pz_L h (mo + 37) = 8) ∧ (pz_R h mo 53 = some (mo + 38) ∧ pz_C h (mo + 38) = 101 ∧ pz_L h (mo + 38) = 104)
theorem mo_C {h : PzH} {mo : Nat} (H : MO h mo) : pz_C h mo = 10 := H.1
theorem mo_R_tape {h : PzH} {mo : Nat} (H : MO h mo) : pz_R h mo 0 = some (mo + 1) := H.2.1.1
theorem mo_C_tape {h : PzH} {mo : Nat} (H : MO h mo) : pz_C h (mo + 1) = 101 := H.2.1.2.1
theorem mo_L_tape {h : PzH} {mo : Nat} (H : MO h mo) : pz_L h (mo + 1) = 6000 := H.2.1.2.2
theorem mo_R_out {h : PzH} {mo : Nat} (H : MO h mo) : pz_R h mo 1 = some (mo + 2) := H.2.2.1.1
theorem mo_C_out {h : PzH} {mo : Nat} (H : MO h mo) : pz_C h (mo + 2) = 101 := H.2.2.1.2.1
theorem mo_L_out {h : PzH} {mo : Nat} (H : MO h mo) : pz_L h (mo + 2) = 6000 := H.2.2.1.2.2
theorem mo_R_row {h : PzH} {mo : Nat} (H : MO h mo) : pz_R h mo 4 = some (mo + 3) := H.2.2.2.1.1
theorem mo_C_row {h : PzH} {mo : Nat} (H : MO h mo) : pz_C h (mo + 3) = 101 := H.2.2.2.1.2.1
theorem mo_L_row {h : PzH} {mo : Nat} (H : MO h mo) : pz_L h (mo + 3) = 6100 := H.2.2.2.1.2.2
theorem mo_R_words {h : PzH} {mo : Nat} (H : MO h mo) : pz_R h mo 6 = some (mo + 4) := H.2.2.2.2.1.1
theorem mo_C_words {h : PzH} {mo : Nat} (H : MO h mo) : pz_C h (mo + 4) = 100 := H.2.2.2.2.1.2.1
theorem mo_L_words {h : PzH} {mo : Nat} (H : MO h mo) : pz_L h (mo + 4) = 80 := H.2.2.2.2.1.2.2
theorem mo_R_state {h : PzH} {mo : Nat} (H : MO h mo) : pz_R h mo 7 = some (mo + 5) := H.2.2.2.2.2.1.1
theorem mo_C_state {h : PzH} {mo : Nat} (H : MO h mo) : pz_C h (mo + 5) = 100 := H.2.2.2.2.2.1.2.1
theorem mo_L_state {h : PzH} {mo : Nat} (H : MO h mo) : pz_L h (mo + 5) = 5 := H.2.2.2.2.2.1.2.2
theorem mo_R_digest {h : PzH} {mo : Nat} (H : MO h mo) : pz_R h mo 8 = some (mo + 6) := H.2.2.2.2.2.2.1.1
theorem mo_C_digest {h : PzH} {mo : Nat} (H : MO h mo) : pz_C h (mo + 6) = 101 := H.2.2.2.2.2.2.1.2.1
theorem mo_L_digest {h : PzH} {mo : Nat} (H : MO h mo) : pz_L h (mo + 6) = 20 := H.2.2.2.2.2.2.1.2.2
theorem mo_R_open {h : PzH} {mo : Nat} (H : MO h mo) : pz_R h mo 11 = some (mo + 7) := H.2.2.2.2.2.2.2.1.1
theorem mo_C_open {h : PzH} {mo : Nat} (H : MO h mo) : pz_C h (mo + 7) = 100 := H.2.2.2.2.2.2.2.1.2.1
theorem mo_L_open {h : PzH} {mo : Nat} (H : MO h mo) : pz_L h (mo + 7) = 8 := H.2.2.2.2.2.2.2.1.2.2
theorem mo_R_key {h : PzH} {mo : Nat} (H : MO h mo) : pz_R h mo 12 = some (mo + 8) := H.2.2.2.2.2.2.2.2.1.1
theorem mo_C_key {h : PzH} {mo : Nat} (H : MO h mo) : pz_C h (mo + 8) = 100 := H.2.2.2.2.2.2.2.2.1.2.1
theorem mo_L_key {h : PzH} {mo : Nat} (H : MO h mo) : pz_L h (mo + 8) = 8 := H.2.2.2.2.2.2.2.2.1.2.2
theorem mo_R_keys {h : PzH} {mo : Nat} (H : MO h mo) : pz_R h mo 14 = some (mo + 9) := H.2.2.2.2.2.2.2.2.2.1.1
theorem mo_C_keys {h : PzH} {mo : Nat} (H : MO h mo) : pz_C h (mo + 9) = 101 := H.2.2.2.2.2.2.2.2.2.1.2.1
theorem mo_L_keys {h : PzH} {mo : Nat} (H : MO h mo) : pz_L h (mo + 9) = 41 := H.2.2.2.2.2.2.2.2.2.1.2.2
theorem mo_R_keyAt {h : PzH} {mo : Nat} (H : MO h mo) : pz_R h mo 15 = some (mo + 10) := H.2.2.2.2.2.2.2.2.2.2.1.1
theorem mo_C_keyAt {h : PzH} {mo : Nat} (H : MO h mo) : pz_C h (mo + 10) = 100 := H.2.2.2.2.2.2.2.2.2.2.1.2.1
theorem mo_L_keyAt {h : PzH} {mo : Nat} (H : MO h mo) : pz_L h (mo + 10) = 8 := H.2.2.2.2.2.2.2.2.2.2.1.2.2
theorem mo_R_fileSize {h : PzH} {mo : Nat} (H : MO h mo) : pz_R h mo 22 = some (mo + 11) := H.2.2.2.2.2.2.2.2.2.2.2.1.1
theorem mo_C_fileSize {h : PzH} {mo : Nat} (H : MO h mo) : pz_C h (mo + 11) = 100 := H.2.2.2.2.2.2.2.2.2.2.2.1.2.1
theorem mo_L_fileSize {h : PzH} {mo : Nat} (H : MO h mo) : pz_L h (mo + 11) = 16 := H.2.2.2.2.2.2.2.2.2.2.2.1.2.2
theorem mo_R_filePath {h : PzH} {mo : Nat} (H : MO h mo) : pz_R h mo 23 = some (mo + 12) := H.2.2.2.2.2.2.2.2.2.2.2.2.1.1
theorem mo_C_filePath {h : PzH} {mo : Nat} (H : MO h mo) : pz_C h (mo + 12) = 100 := H.2.2.2.2.2.2.2.2.2.2.2.2.1.2.1
theorem mo_L_filePath {h : PzH} {mo : Nat} (H : MO h mo) : pz_L h (mo + 12) = 16 := H.2.2.2.2.2.2.2.2.2.2.2.2.1.2.2
theorem mo_R_hashes {h : PzH} {mo : Nat} (H : MO h mo) : pz_R h mo 24 = some (mo + 13) := H.2.2.2.2.2.2.2.2.2.2.2.2.2.1.1
theorem mo_C_hashes {h : PzH} {mo : Nat} (H : MO h mo) : pz_C h (mo + 13) = 101 := H.2.2.2.2.2.2.2.2.2.2.2.2.2.1.2.1
theorem mo_L_hashes {h : PzH} {mo : Nat} (H : MO h mo) : pz_L h (mo + 13) = 1280 := H.2.2.2.2.2.2.2.2.2.2.2.2.2.1.2.2
theorem mo_R_name {h : PzH} {mo : Nat} (H : MO h mo) : pz_R h mo 25 = some (mo + 14) := H.2.2.2.2.2.2.2.2.2.2.2.2.2.2.1.1
theorem mo_C_name {h : PzH} {mo : Nat} (H : MO h mo) : pz_C h (mo + 14) = 101 := H.2.2.2.2.2.2.2.2.2.2.2.2.2.2.1.2.1
theorem mo_L_name {h : PzH} {mo : Nat} (H : MO h mo) : pz_L h (mo + 14) = 20 := H.2.2.2.2.2.2.2.2.2.2.2.2.2.2.1.2.2
theorem mo_R_content {h : PzH} {mo : Nat} (H : MO h mo) : pz_R h mo 26 = some (mo + 15) := H.2.2.2.2.2.2.2.2.2.2.2.2.2.2.2.1.1
theorem mo_C_content {h : PzH} {mo : Nat} (H : MO h mo) : pz_C h (mo + 15) = 101 := H.2.2.2.2.2.2.2.2.2.2.2.2.2.2.2.1.2.1
theorem mo_L_content {h : PzH} {mo : Nat} (H : MO h mo) : pz_L h (mo + 15) = 4096 := H.2.2.2.2.2.2.2.2.2.2.2.2.2.2.2.1.2.2
theorem mo_R_newSize {h : PzH} {mo : Nat} (H : MO h mo) : pz_R h mo 30 = some (mo + 16) := H.2.2.2.2.2.2.2.2.2.2.2.2.2.2.2.2.1.1
theorem mo_C_newSize {h : PzH} {mo : Nat} (H : MO h mo) : pz_C h (mo + 16) = 100 := H.2.2.2.2.2.2.2.2.2.2.2.2.2.2.2.2.1.2.1
theorem mo_L_newSize {h : PzH} {mo : Nat} (H : MO h mo) : pz_L h (mo + 16) = 16 := H.2.2.2.2.2.2.2.2.2.2.2.2.2.2.2.2.1.2.2
theorem mo_R_newPath {h : PzH} {mo : Nat} (H : MO h mo) : pz_R h mo 31 = some (mo + 17) := H.2.2.2.2.2.2.2.2.2.2.2.2.2.2.2.2.2.1.1
theorem mo_C_newPath {h : PzH} {mo : Nat} (H : MO h mo) : pz_C h (mo + 17) = 100 := H.2.2.2.2.2.2.2.2.2.2.2.2.2.2.2.2.2.1.2.1
theorem mo_L_newPath {h : PzH} {mo : Nat} (H : MO h mo) : pz_L h (mo + 17) = 16 := H.2.2.2.2.2.2.2.2.2.2.2.2.2.2.2.2.2.1.2.2
theorem mo_R_there {h : PzH} {mo : Nat} (H : MO h mo) : pz_R h mo 32 = some (mo + 18) := H.2.2.2.2.2.2.2.2.2.2.2.2.2.2.2.2.2.2.1.1
theorem mo_C_there {h : PzH} {mo : Nat} (H : MO h mo) : pz_C h (mo + 18) = 102 := H.2.2.2.2.2.2.2.2.2.2.2.2.2.2.2.2.2.2.1.2.1
theorem mo_L_there {h : PzH} {mo : Nat} (H : MO h mo) : pz_L h (mo + 18) = 5 := H.2.2.2.2.2.2.2.2.2.2.2.2.2.2.2.2.2.2.1.2.2
theorem mo_R_disk {h : PzH} {mo : Nat} (H : MO h mo) : pz_R h mo 33 = some (mo + 19) := H.2.2.2.2.2.2.2.2.2.2.2.2.2.2.2.2.2.2.2.1.1
theorem mo_C_disk {h : PzH} {mo : Nat} (H : MO h mo) : pz_C h (mo + 19) = 101 := H.2.2.2.2.2.2.2.2.2.2.2.2.2.2.2.2.2.2.2.1.2.1
theorem mo_L_disk {h : PzH} {mo : Nat} (H : MO h mo) : pz_L h (mo + 19) = 16384 := H.2.2.2.2.2.2.2.2.2.2.2.2.2.2.2.2.2.2.2.1.2.2
theorem mo_R_has {h : PzH} {mo : Nat} (H : MO h mo) : pz_R h mo 34 = some (mo + 20) := H.2.2.2.2.2.2.2.2.2.2.2.2.2.2.2.2.2.2.2.2.1.1
theorem mo_C_has {h : PzH} {mo : Nat} (H : MO h mo) : pz_C h (mo + 20) = 102 := H.2.2.2.2.2.2.2.2.2.2.2.2.2.2.2.2.2.2.2.2.1.2.1
theorem mo_L_has {h : PzH} {mo : Nat} (H : MO h mo) : pz_L h (mo + 20) = 256 := H.2.2.2.2.2.2.2.2.2.2.2.2.2.2.2.2.2.2.2.2.1.2.2
theorem mo_R_came {h : PzH} {mo : Nat} (H : MO h mo) : pz_R h mo 35 = some (mo + 21) := H.2.2.2.2.2.2.2.2.2.2.2.2.2.2.2.2.2.2.2.2.2.1.1
theorem mo_C_came {h : PzH} {mo : Nat} (H : MO h mo) : pz_C h (mo + 21) = 102 := H.2.2.2.2.2.2.2.2.2.2.2.2.2.2.2.2.2.2.2.2.2.1.2.1
theorem mo_L_came {h : PzH} {mo : Nat} (H : MO h mo) : pz_L h (mo + 21) = 4096 := H.2.2.2.2.2.2.2.2.2.2.2.2.2.2.2.2.2.2.2.2.2.1.2.2
theorem mo_R_counts {h : PzH} {mo : Nat} (H : MO h mo) : pz_R h mo 36 = some (mo + 22) := H.2.2.2.2.2.2.2.2.2.2.2.2.2.2.2.2.2.2.2.2.2.2.1.1
theorem mo_C_counts {h : PzH} {mo : Nat} (H : MO h mo) : pz_C h (mo + 22) = 100 := H.2.2.2.2.2.2.2.2.2.2.2.2.2.2.2.2.2.2.2.2.2.2.1.2.1
theorem mo_L_counts {h : PzH} {mo : Nat} (H : MO h mo) : pz_L h (mo + 22) = 20 := H.2.2.2.2.2.2.2.2.2.2.2.2.2.2.2.2.2.2.2.2.2.2.1.2.2
theorem mo_R_joined {h : PzH} {mo : Nat} (H : MO h mo) : pz_R h mo 37 = some (mo + 23) := H.2.2.2.2.2.2.2.2.2.2.2.2.2.2.2.2.2.2.2.2.2.2.2.1.1
theorem mo_C_joined {h : PzH} {mo : Nat} (H : MO h mo) : pz_C h (mo + 23) = 102 := H.2.2.2.2.2.2.2.2.2.2.2.2.2.2.2.2.2.2.2.2.2.2.2.1.2.1
theorem mo_L_joined {h : PzH} {mo : Nat} (H : MO h mo) : pz_L h (mo + 23) = 25 := H.2.2.2.2.2.2.2.2.2.2.2.2.2.2.2.2.2.2.2.2.2.2.2.1.2.2
theorem mo_R_hello {h : PzH} {mo : Nat} (H : MO h mo) : pz_R h mo 38 = some (mo + 24) := H.2.2.2.2.2.2.2.2.2.2.2.2.2.2.2.2.2.2.2.2.2.2.2.2.1.1
theorem mo_C_hello {h : PzH} {mo : Nat} (H : MO h mo) : pz_C h (mo + 24) = 102 := H.2.2.2.2.2.2.2.2.2.2.2.2.2.2.2.2.2.2.2.2.2.2.2.2.1.2.1
theorem mo_L_hello {h : PzH} {mo : Nat} (H : MO h mo) : pz_L h (mo + 24) = 25 := H.2.2.2.2.2.2.2.2.2.2.2.2.2.2.2.2.2.2.2.2.2.2.2.2.1.2.2
theorem mo_R_spoke {h : PzH} {mo : Nat} (H : MO h mo) : pz_R h mo 39 = some (mo + 25) := H.2.2.2.2.2.2.2.2.2.2.2.2.2.2.2.2.2.2.2.2.2.2.2.2.2.1.1
theorem mo_C_spoke {h : PzH} {mo : Nat} (H : MO h mo) : pz_C h (mo + 25) = 102 := H.2.2.2.2.2.2.2.2.2.2.2.2.2.2.2.2.2.2.2.2.2.2.2.2.2.1.2.1
theorem mo_L_spoke {h : PzH} {mo : Nat} (H : MO h mo) : pz_L h (mo + 25) = 25 := H.2.2.2.2.2.2.2.2.2.2.2.2.2.2.2.2.2.2.2.2.2.2.2.2.2.1.2.2
theorem mo_R_chokes {h : PzH} {mo : Nat} (H : MO h mo) : pz_R h mo 40 = some (mo + 26) := H.2.2.2.2.2.2.2.2.2.2.2.2.2.2.2.2.2.2.2.2.2.2.2.2.2.2.1.1
theorem mo_C_chokes {h : PzH} {mo : Nat} (H : MO h mo) : pz_C h (mo + 26) = 102 := H.2.2.2.2.2.2.2.2.2.2.2.2.2.2.2.2.2.2.2.2.2.2.2.2.2.2.1.2.1
theorem mo_L_chokes {h : PzH} {mo : Nat} (H : MO h mo) : pz_L h (mo + 26) = 25 := H.2.2.2.2.2.2.2.2.2.2.2.2.2.2.2.2.2.2.2.2.2.2.2.2.2.2.1.2.2
theorem mo_R_choked {h : PzH} {mo : Nat} (H : MO h mo) : pz_R h mo 41 = some (mo + 27) := H.2.2.2.2.2.2.2.2.2.2.2.2.2.2.2.2.2.2.2.2.2.2.2.2.2.2.2.1.1
theorem mo_C_choked {h : PzH} {mo : Nat} (H : MO h mo) : pz_C h (mo + 27) = 102 := H.2.2.2.2.2.2.2.2.2.2.2.2.2.2.2.2.2.2.2.2.2.2.2.2.2.2.2.1.2.1
theorem mo_L_choked {h : PzH} {mo : Nat} (H : MO h mo) : pz_L h (mo + 27) = 25 := H.2.2.2.2.2.2.2.2.2.2.2.2.2.2.2.2.2.2.2.2.2.2.2.2.2.2.2.1.2.2
theorem mo_R_wants {h : PzH} {mo : Nat} (H : MO h mo) : pz_R h mo 42 = some (mo + 28) := H.2.2.2.2.2.2.2.2.2.2.2.2.2.2.2.2.2.2.2.2.2.2.2.2.2.2.2.2.1.1
theorem mo_C_wants {h : PzH} {mo : Nat} (H : MO h mo) : pz_C h (mo + 28) = 102 := H.2.2.2.2.2.2.2.2.2.2.2.2.2.2.2.2.2.2.2.2.2.2.2.2.2.2.2.2.1.2.1
theorem mo_L_wants {h : PzH} {mo : Nat} (H : MO h mo) : pz_L h (mo + 28) = 25 := H.2.2.2.2.2.2.2.2.2.2.2.2.2.2.2.2.2.2.2.2.2.2.2.2.2.2.2.2.1.2.2
theorem mo_R_wanted {h : PzH} {mo : Nat} (H : MO h mo) : pz_R h mo 43 = some (mo + 29) := H.2.2.2.2.2.2.2.2.2.2.2.2.2.2.2.2.2.2.2.2.2.2.2.2.2.2.2.2.2.1.1
theorem mo_C_wanted {h : PzH} {mo : Nat} (H : MO h mo) : pz_C h (mo + 29) = 102 := H.2.2.2.2.2.2.2.2.2.2.2.2.2.2.2.2.2.2.2.2.2.2.2.2.2.2.2.2.2.1.2.1
theorem mo_L_wanted {h : PzH} {mo : Nat} (H : MO h mo) : pz_L h (mo + 29) = 25 := H.2.2.2.2.2.2.2.2.2.2.2.2.2.2.2.2.2.2.2.2.2.2.2.2.2.2.2.2.2.1.2.2
theorem mo_R_theirs {h : PzH} {mo : Nat} (H : MO h mo) : pz_R h mo 44 = some (mo + 30) := H.2.2.2.2.2.2.2.2.2.2.2.2.2.2.2.2.2.2.2.2.2.2.2.2.2.2.2.2.2.2.1.1
theorem mo_C_theirs {h : PzH} {mo : Nat} (H : MO h mo) : pz_C h (mo + 30) = 102 := H.2.2.2.2.2.2.2.2.2.2.2.2.2.2.2.2.2.2.2.2.2.2.2.2.2.2.2.2.2.2.1.2.1
theorem mo_L_theirs {h : PzH} {mo : Nat} (H : MO h mo) : pz_L h (mo + 30) = 1600 := H.2.2.2.2.2.2.2.2.2.2.2.2.2.2.2.2.2.2.2.2.2.2.2.2.2.2.2.2.2.2.1.2.2
theorem mo_R_reason {h : PzH} {mo : Nat} (H : MO h mo) : pz_R h mo 45 = some (mo + 31) := H.2.2.2.2.2.2.2.2.2.2.2.2.2.2.2.2.2.2.2.2.2.2.2.2.2.2.2.2.2.2.2.1.1
theorem mo_C_reason {h : PzH} {mo : Nat} (H : MO h mo) : pz_C h (mo + 31) = 100 := H.2.2.2.2.2.2.2.2.2.2.2.2.2.2.2.2.2.2.2.2.2.2.2.2.2.2.2.2.2.2.2.1.2.1
theorem mo_L_reason {h : PzH} {mo : Nat} (H : MO h mo) : pz_L h (mo + 31) = 25 := H.2.2.2.2.2.2.2.2.2.2.2.2.2.2.2.2.2.2.2.2.2.2.2.2.2.2.2.2.2.2.2.1.2.2
theorem mo_R_asked {h : PzH} {mo : Nat} (H : MO h mo) : pz_R h mo 46 = some (mo + 32) := H.2.2.2.2.2.2.2.2.2.2.2.2.2.2.2.2.2.2.2.2.2.2.2.2.2.2.2.2.2.2.2.2.1.1
theorem mo_C_asked {h : PzH} {mo : Nat} (H : MO h mo) : pz_C h (mo + 32) = 100 := H.2.2.2.2.2.2.2.2.2.2.2.2.2.2.2.2.2.2.2.2.2.2.2.2.2.2.2.2.2.2.2.2.1.2.1
theorem mo_L_asked {h : PzH} {mo : Nat} (H : MO h mo) : pz_L h (mo + 32) = 100 := H.2.2.2.2.2.2.2.2.2.2.2.2.2.2.2.2.2.2.2.2.2.2.2.2.2.2.2.2.2.2.2.2.1.2.2
theorem mo_R_wire {h : PzH} {mo : Nat} (H : MO h mo) : pz_R h mo 47 = some (mo + 33) := H.2.2.2.2.2.2.2.2.2.2.2.2.2.2.2.2.2.2.2.2.2.2.2.2.2.2.2.2.2.2.2.2.2.1.1
theorem mo_C_wire {h : PzH} {mo : Nat} (H : MO h mo) : pz_C h (mo + 33) = 101 := H.2.2.2.2.2.2.2.2.2.2.2.2.2.2.2.2.2.2.2.2.2.2.2.2.2.2.2.2.2.2.2.2.2.1.2.1
theorem mo_L_wire {h : PzH} {mo : Nat} (H : MO h mo) : pz_L h (mo + 33) = 105000 := H.2.2.2.2.2.2.2.2.2.2.2.2.2.2.2.2.2.2.2.2.2.2.2.2.2.2.2.2.2.2.2.2.2.1.2.2
theorem mo_R_wired {h : PzH} {mo : Nat} (H : MO h mo) : pz_R h mo 48 = some (mo + 34) := H.2.2.2.2.2.2.2.2.2.2.2.2.2.2.2.2.2.2.2.2.2.2.2.2.2.2.2.2.2.2.2.2.2.2.1.1
theorem mo_C_wired {h : PzH} {mo : Nat} (H : MO h mo) : pz_C h (mo + 34) = 100 := H.2.2.2.2.2.2.2.2.2.2.2.2.2.2.2.2.2.2.2.2.2.2.2.2.2.2.2.2.2.2.2.2.2.2.1.2.1
theorem mo_L_wired {h : PzH} {mo : Nat} (H : MO h mo) : pz_L h (mo + 34) = 25 := H.2.2.2.2.2.2.2.2.2.2.2.2.2.2.2.2.2.2.2.2.2.2.2.2.2.2.2.2.2.2.2.2.2.2.1.2.2
theorem mo_R_made {h : PzH} {mo : Nat} (H : MO h mo) : pz_R h mo 49 = some (mo + 35) := H.2.2.2.2.2.2.2.2.2.2.2.2.2.2.2.2.2.2.2.2.2.2.2.2.2.2.2.2.2.2.2.2.2.2.2.1.1
theorem mo_C_made {h : PzH} {mo : Nat} (H : MO h mo) : pz_C h (mo + 35) = 101 := H.2.2.2.2.2.2.2.2.2.2.2.2.2.2.2.2.2.2.2.2.2.2.2.2.2.2.2.2.2.2.2.2.2.2.2.1.2.1
theorem mo_L_made {h : PzH} {mo : Nat} (H : MO h mo) : pz_L h (mo + 35) = 80 := H.2.2.2.2.2.2.2.2.2.2.2.2.2.2.2.2.2.2.2.2.2.2.2.2.2.2.2.2.2.2.2.2.2.2.2.1.2.2
theorem mo_R_greeting {h : PzH} {mo : Nat} (H : MO h mo) : pz_R h mo 51 = some (mo + 36) := H.2.2.2.2.2.2.2.2.2.2.2.2.2.2.2.2.2.2.2.2.2.2.2.2.2.2.2.2.2.2.2.2.2.2.2.2.1.1
theorem mo_C_greeting {h : PzH} {mo : Nat} (H : MO h mo) : pz_C h (mo + 36) = 101 := H.2.2.2.2.2.2.2.2.2.2.2.2.2.2.2.2.2.2.2.2.2.2.2.2.2.2.2.2.2.2.2.2.2.2.2.2.1.2.1
theorem mo_L_greeting {h : PzH} {mo : Nat} (H : MO h mo) : pz_L h (mo + 36) = 20 := H.2.2.2.2.2.2.2.2.2.2.2.2.2.2.2.2.2.2.2.2.2.2.2.2.2.2.2.2.2.2.2.2.2.2.2.2.1.2.2
theorem mo_R_called {h : PzH} {mo : Nat} (H : MO h mo) : pz_R h mo 52 = some (mo + 37) := H.2.2.2.2.2.2.2.2.2.2.2.2.2.2.2.2.2.2.2.2.2.2.2.2.2.2.2.2.2.2.2.2.2.2.2.2.2.1.1
theorem mo_C_called {h : PzH} {mo : Nat} (H : MO h mo) : pz_C h (mo + 37) = 101 := H.2.2.2.2.2.2.2.2.2.2.2.2.2.2.2.2.2.2.2.2.2.2.2.2.2.2.2.2.2.2.2.2.2.2.2.2.2.1.2.1
theorem mo_L_called {h : PzH} {mo : Nat} (H : MO h mo) : pz_L h (mo + 37) = 8 := H.2.2.2.2.2.2.2.2.2.2.2.2.2.2.2.2.2.2.2.2.2.2.2.2.2.2.2.2.2.2.2.2.2.2.2.2.2.1.2.2
theorem mo_R_message {h : PzH} {mo : Nat} (H : MO h mo) : pz_R h mo 53 = some (mo + 38) := H.2.2.2.2.2.2.2.2.2.2.2.2.2.2.2.2.2.2.2.2.2.2.2.2.2.2.2.2.2.2.2.2.2.2.2.2.2.2.1
theorem mo_C_message {h : PzH} {mo : Nat} (H : MO h mo) : pz_C h (mo + 38) = 101 := H.2.2.2.2.2.2.2.2.2.2.2.2.2.2.2.2.2.2.2.2.2.2.2.2.2.2.2.2.2.2.2.2.2.2.2.2.2.2.2.1
theorem mo_L_message {h : PzH} {mo : Nat} (H : MO h mo) : pz_L h (mo + 38) = 104 := H.2.2.2.2.2.2.2.2.2.2.2.2.2.2.2.2.2.2.2.2.2.2.2.2.2.2.2.2.2.2.2.2.2.2.2.2.2.2.2.2
